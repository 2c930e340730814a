/** Promises 1 and 2: a new object, and signs that come on the TAPE. */
public final class TapeTest {
    public static void main(String[] args) {
        newObject();
        order();
        leftOut();
        full();
        taken();
        Check.end();
    }

    private static void newObject() {
        FilmFoot foot = new FilmFoot();
        for (int what = 0; what <= 12; what++) {
            Check.due("new count(" + what + ")", foot.count(what), what == 8 ? 8 : 0);
        }
        Check.due("new thinks", foot.thinks(0, 0), -2);
        Check.due("new undo", foot.undo(), false);
        Check.due("new show", foot.show(), -1);
        Check.due("new judged(0)", foot.judged(0), -1);
        Check.due("new judged(2)", foot.judged(2), 0);
        Check.due("new mark back", foot.mark(0, true), false);
        Check.due("NONE", FilmFoot.NONE, -1);
    }

    private static void order() {
        FilmFoot foot = new FilmFoot();
        Check.due("feed", foot.feed(Check.eight("thing a ", 0), Check.eight("; thing ", 0), Check.eight("bb ;", 0)), 20);
        Check.due("count(12)", foot.count(12), 20);
        Check.due("film", foot.film(), 0);
        Check.due("things", foot.count(0), 2);
        foot.feed(Check.eight("thing cc", 0), 0, 0);
        Check.due("feed behind", foot.feed(0, 0, Check.eight(" ; scene", 0)), 16);
        Check.due("feed behind that", foot.feed(Check.eight(" cc yes ", 0), Check.eight("under cc", 0), Check.eight(" no;", 0)), 36);
        Check.due("film of three feeds", foot.film(), 0);
        Check.due("scenes", foot.count(1), 1);
    }

    private static void leftOut() {
        FilmFoot foot = new FilmFoot();
        Check.due("nothing", foot.feed(0, 0, 0), 0);
        Check.due("others", foot.feed(0x0001_090b_0c0d_1e1fL, 0x7f80_81a0_c0e1_feffL, -1L), 0);
        Check.due("10, 32, 126", foot.feed(0x0a00_0000_0000_0000L, 0x20L, 0x7e00L), 3);
        Check.due("some of them", foot.feed(0x6100_6200_63ff_6409L, Long.MIN_VALUE, 0x217f_21L), 9);
        Check.due("fault of the third sign", foot.film(), 1 + 16 * 2);
        for (int sign = 0; sign < 256; sign++) {
            int kept = sign == 10 || sign >= 32 && sign <= 126 ? 1 : 0;
            Check.due("sign " + sign, foot.feed((long) sign << 56, 0, 0), kept);
            foot.film();
        }
    }

    private static void full() {
        FilmFoot foot = new FilmFoot();
        long blanks = 0x2020202020202020L;
        for (int feeds = 1; feeds <= 41; feeds++) {
            Check.due("feed " + feeds, foot.feed(blanks, blanks, blanks), 24 * feeds);
        }
        Check.due("feed to 999", foot.feed(blanks, 0x2020202020202000L, 0), 999);
        Check.due("feed beyond", foot.feed(0x2a2b_0000_0000_0000L, blanks, 0), 1000);
        Check.due("feed when full", foot.feed(blanks, blanks, blanks), 1000);
        Check.due("count when full", foot.count(12), 1000);
        Check.due("the last sign", foot.film(), 1 + 16 * 999);
        for (int feeds = 1; feeds <= 42; feeds++) {
            foot.feed(blanks, blanks, blanks);
        }
        Check.due("count of blanks", foot.count(12), 1000);
        Check.due("blanks are a film", foot.film(), 0);
    }

    private static void taken() {
        FilmFoot foot = new FilmFoot();
        Check.film(foot, "thing a ;");
        Check.due("taken by a film", foot.count(12), 0);
        Check.film(foot, "thing ;");
        Check.due("taken by a fault", foot.count(12), 0);
        Check.evening(foot, "show ;");
        Check.due("taken by an evening", foot.count(12), 0);
        Check.evening(foot, "show show");
        Check.due("taken by an evening's fault", foot.count(12), 0);
        Check.due("nothing is left of it", foot.feed(0x61L << 56, 0, 0), 1);
    }
}
