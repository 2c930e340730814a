import java.util.NoSuchElementException;

/** Every call of the face with numbers far off, on an object full of all there may be, and on a new one. */
public final class EdgeTest {
    private static final int[] FAR = {-1, -2, -32, -1000, 6, 8, 9, 31, 32, 33, 36, 64, 96, 1 << 30, Integer.MAX_VALUE, Integer.MIN_VALUE};

    public static void main(String[] args) {
        far(full());
        far(new FilmFoot());
        numbers(full());
        crowded();
        longLaw();
        manyCalls();
        Check.end();
    }

    /** Six THINGS, eight SCENES, six WATCHERS, forty lines. */
    private static FilmFoot full() {
        StringBuilder film = new StringBuilder();
        for (char name = 'a'; name <= 'f'; name++) {
            film.append("thing ").append(name).append(";");
        }
        for (int scene = 0; scene < 8; scene++) {
            char said = (char) ('a' + scene % 6);
            film.append("scene ").append(said).append(" yes under ").append(said).append(scene % 2 == 0 ? " no;" : " yes;");
        }
        String[] kinds = {"ear", "eye", "both", "both", "child", "eye"};
        for (int watcher = 0; watcher < 6; watcher++) {
            film.append("watcher ").append((char) ('p' + watcher)).append(" ").append(kinds[watcher])
                .append(" trust ").append(watcher + 2).append(" walks 30;");
        }
        FilmFoot foot = Check.foot(film + "star 4;");
        Check.due("forty lines", Check.evening(foot, "show;".repeat(8) + "again;".repeat(32)), 0);
        foot.show();
        return foot;
    }

    private static void far(FilmFoot foot) {
        for (int far : FAR) {
            String at = "(" + far + ")";
            Check.due("scene" + at, foot.scene(far == 6 ? 99 : far, 0), -2);
            Check.due("scene what" + at, foot.scene(0, far), -2);
            Check.due("watcher" + at, foot.watcher(far, 0), -1);
            Check.due("watcher what" + at, foot.watcher(0, far), -1);
            Check.due("thinks" + at, foot.thinks(far, 0), -2);
            Check.due("thinks thing" + at, foot.thinks(0, far), -2);
            Check.due("write" + at, foot.write(far == 6 ? 99 : far, 0, true), false);
            Check.due("write thing" + at, foot.write(7, far, true), false);
            Check.due("cut" + at, foot.cut(far == 6 ? 99 : far), false);
            Check.due("talk" + at, foot.talk(far, 0), -1);
            Check.due("talk to" + at, foot.talk(0, far), -1);
            Check.due("judged" + at, foot.judged(far), -2);
            Check.due("end" + at, foot.end(far, 0), -2);
            Check.due("end thing" + at, foot.end(0, far), -2);
            Check.due("first" + at, foot.first(far), -1);
            Check.due("forge" + at, foot.forge(far, 0, true), -1);
            Check.due("forge thing" + at, foot.forge(0, far, true), -1);
            Check.due("spare" + at, foot.spare(far), -1);
            Check.due("takes" + at, foot.takes(far, 0), -2);
            Check.due("takes scene" + at, foot.takes(0, far == 6 ? 99 : far), -2);
            Check.due("blank" + at, foot.blank(far), -1);
            Check.due("mentions" + at, foot.mentions(far, 0), -1);
            Check.due("mentions what" + at, foot.mentions(0, far), -1);
            Check.due("fooled" + at, foot.fooled(far), -1);
            Check.due("tell" + at, foot.tell(far, 0, 1), false);
            Check.due("tell thing" + at, foot.tell(0, far, 1), false);
            Check.due("tell is" + at, far != -1 && foot.tell(0, 0, far), false);
            Check.due("sets" + at, foot.sets(far), -1);
            Check.due("wavers" + at, foot.wavers(far), -1);
            Check.due("lone" + at, foot.lone(far), -1);
            Check.due("chance" + at, foot.chance(far, 0, 5), -1);
            Check.due("chance thing" + at, foot.chance(0, far, 5), -1);
            Check.due("chance odds" + at, foot.chance(0, 0, far < 0 || far > 10 ? far : 11), -1);
            Check.due("who" + at, foot.who(far, 1), -1);
            Check.due("who is" + at, foot.who(0, far == -1 ? 2 : far), -1);
            Check.due("years what" + at, foot.years(1, 1, far), -1);
            Check.due("years steps" + at, foot.years(1, far > 0 && far < 100 ? 100 : far, 0), -1);
            Check.due("years seed" + at, foot.years(far >= 0 && far < 10000 ? 10000 : far, 1, 0), -1);
            Check.due("mark" + at, foot.mark(far, false), false);
            Check.due("mark back" + at, foot.mark(far, true), false);
            Check.due("count" + at, foot.count(far < 0 || far > 12 ? far : 13), -1);
        }
    }

    private static void numbers(FilmFoot foot) {
        int[] want = {6, 8, 6, 1, 0, 63, 0, 4, 4, 40, 0, 1, 0};
        for (int what = 0; what < want.length; what++) {
            Check.due("full count(" + what + ")", foot.count(what), want[what]);
        }
        Check.due("the last of all", foot.takes(5, 7), 3);
        Check.due("told of the last", foot.tell(5, 5, 0), true);
        Check.due("sets of the last", foot.sets(0), 0);
        foot.tell(5, 5, 1);
        Check.due("all sets", foot.sets(0), 128);
        Check.due("in some", foot.sets(2), 254);
        Check.due("the last thing", foot.end(5, 5), 1);
        Check.due("the last scene", foot.mentions(1, 0), 130);
        Check.due("judged", foot.judged(0) + 100 * foot.judged(2), 9 + 600);
        int thrown = 0;
        try {
            foot.rests(0, 0, 0, 4);
        } catch (NoSuchElementException none) {
            thrown = 1;
        }
        Check.due("no fifth rest", thrown, 1);
    }

    /** All eight SCENES have to be WRITTEN or CUT; and of two SETS neither holds the other one. */
    private static void crowded() {
        String eight = "thing a ; " + "scene a no under a no ; ".repeat(8);
        FilmFoot eye = Check.foot(eight + "watcher v eye trust 1 walks 1 ;");
        Check.due("all eight written", eye.forge(0, 0, true), 255);
        eye.show();
        Check.due("he would walk out", eye.forge(0, 0, true), -1);
        FilmFoot child = Check.foot("thing a ; " + "scene a yes under a no ; ".repeat(8) + "watcher v child trust 1 walks 1 ; doubts clash ;");
        Check.due("all eight cut", child.spare(0), 255);
        FilmFoot either = Check.foot("thing a ; thing b ; scene a yes under a no ; scene a yes under a no ; scene b yes under b yes ; "
            + "watcher v child trust 1 walks 2 ; watcher u child trust 1 walks 1 ; doubts clash ;");
        either.tell(0, 1, 1);
        either.tell(1, 1, -1);
        Check.due("two sets", either.sets(0), 2);
        Check.due("none in all", either.sets(1), 0);
        Check.due("both in some", either.sets(2), 3);
    }

    /** As long a law as the TAPE holds. */
    private static void longLaw() {
        String head = "thing a;scene a no under a no;watcher v eye trust 1 walks 9;doubts ";
        StringBuilder law = new StringBuilder("1");
        while (head.length() + law.length() < 996) {
            law.append("*1");
        }
        FilmFoot foot = Check.foot(head + law + "+1;");
        foot.show();
        Check.due("doubt by a long law", foot.watcher(0, 3), 2);
    }

    private static void manyCalls() {
        FilmFoot foot = full();
        for (int call = 0; call < 480; call++) {
            foot.show();
            foot.again();
        }
        Check.due("reissues", foot.count(4), 60);
        Check.due("undone", foot.count(11), 16);
    }
}
