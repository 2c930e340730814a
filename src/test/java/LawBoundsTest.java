/** Terms 1 and 2, promises 3 and 8: each sentence that names a bound of the law of doubt. */
public final class LawBoundsTest {
    /** An ear and an eye of trust 0 and 9; SCENES that clash, are alike, and tell of two THINGS. */
    private static final String HEAD = "thing a;thing b;scene a yes under a no;scene a yes under a yes;scene a no under b yes;"
        + "watcher p ear trust 0 walks 30;watcher q eye trust 9 walks 30;";

    public static void main(String[] args) {
        fromTheLeft();
        oneTest();
        sums();
        products();
        withinFive();
        ofNotAndBrackets();
        partWithinFive();
        clash();
        belief();
        oddFact();
        oddOfNothingTaken();
        oddOfNothingTakenAmidSix();
        oddOfNothingThought();
        seen();
        oneOrZero();
        whatIsNotZero();
        intsWrap();
        withoutDoubts();
        zeroToNine();
        Check.end();
    }

    /** The law's value of the first SCENE by p, to whom belief, odd and seen are 0, and clash 1. */
    private static void law(String law, int doubt) {
        FilmFoot foot = Check.foot(HEAD + "doubts " + law + ";");
        foot.show();
        Check.due("doubt by " + law, foot.watcher(0, 3), doubt);
    }

    /** The doubt of p and of q by each SCENE. */
    private static void doubts(FilmFoot foot, int... want) {
        for (int show = 0; show < want.length / 2; show++) {
            int p = foot.watcher(0, 3);
            int q = foot.watcher(1, 3);
            if (foot.show() == -1) {
                foot.again();
                foot.show();
            }
            Check.due("doubt of p by show " + show, foot.watcher(0, 3) - p, want[2 * show]);
            Check.due("doubt of q by show " + show, foot.watcher(1, 3) - q, want[2 * show + 1]);
        }
    }

    private static void fromTheLeft() {
        Check.sentence("E: TEST { and TEST or or TEST }, from the left");
        law("1 or 1 and 0", 0);
        law("0 and 0 or 1", 1);
        law("0 and 1 or 1", 1);
        law("1 or 0 and 0 or 0", 0);
        law("9 - 4 - 3", 2);
        law("9 - 4 + 3", 8);
        law("2 * 0 * 3 + 1", 1);
    }

    private static void oneTest() {
        Check.sentence("TEST: SUM, or SUM < SUM, or SUM = SUM");
        law("3", 3);
        law("1 < 1", 0);
        law("1 < 2", 1);
        law("2 < 1", 0);
        law("1 = 1", 1);
        law("1 = 2", 0);
        Check.filmFault(1, "doubts 1 < 2 @< 3 ;");
        Check.filmFault(1, "doubts 1 = 1 @= 1 ;");
        Check.filmFault(1, "doubts 1 < 2 @= 1 ;");
        Check.filmFault(1, "doubts 1 @> 2 ;");
        Check.filmFault(1, "doubts 1 < @;");
    }

    private static void sums() {
        Check.sentence("SUM: PRODUCT { + or - PRODUCT }");
        law("1 + 2 < 3 + 1", 1);
        law("1 + 2 = 4 - 1", 1);
        Check.filmFault(1, "doubts @- 1 ;");
        Check.filmFault(1, "doubts 1 + @+ 1 ;");
        Check.filmFault(1, "doubts 1 - @;");
    }

    private static void products() {
        Check.sentence("PRODUCT: PART { * PART }");
        law("1 + 2 * 3", 7);
        law("2 * 3 + 1", 7);
        law("9 - 2 * 3", 3);
        law("not 0 * 4", 4);
        Check.filmFault(1, "doubts @* 1 ;");
        Check.filmFault(1, "doubts 1 @2 ;");
        Check.filmFault(1, "doubts 1 * @;");
    }

    private static void withinFive() {
        Check.sentence("no PART lies within 5 of not and ( )");
        law("not not not not 1", 1);
        law("((((3))))", 3);
        law("(not (not 1)) + 2", 3);
        Check.filmFault(5, "doubts not not not not not @1 ;");
        Check.filmFault(5, "doubts (((((@1))))) ;");
        law("((((2)))) + ((((3)))) * not not not not 1", 5);
        law("((((1)) + ((2))) * (((3))))", 9);
        String level = "1 and 1 < 1 + 1 * ";
        law(level + "(" + level + "(" + level + "(" + level + "(" + level + "1))))", 1);
        law(level + "(" + level + "(" + level + "(" + level + "(" + level + "0))))", 0);
    }

    private static void ofNotAndBrackets() {
        Check.sentence("within 5 of not and ( )");
        Check.filmFault(5, "doubts not (not (not @1)) ;");
        Check.filmFault(5, "doubts ((not not (@odd))) ;");
        Check.filmFault(5, "doubts 1 + (2 * (3 - not (4 < (@5)))) ;");
        Check.filmFault(5, "doubts ((((1 and not @0)))) ;");
        Check.foot("doubts ((((1 and 0)))) + not (not (0)) ;");
    }

    private static void partWithinFive() {
        Check.sentence("not, or a PART, within 5 others");
        Check.filmFault(5, "doubts not not not not not @not 1 ;");
        Check.filmFault(5, "doubts not not not not not @(1) ;");
        Check.filmFault(5, "doubts ((((( @not 1 ))))) ;");
        Check.filmFault(5, "doubts ((((( @clash ))))) ;");
        Check.filmFault(5, "doubts " + "(".repeat(5) + "@" + "(".repeat(900));
        Check.filmFault(5, "doubts not not not not not @" + "not ".repeat(200));
        Check.filmFault(1, "doubts ((((( @) ;");
        Check.filmFault(1, "doubts ((((( @");
    }

    private static void clash() {
        Check.sentence("clash (1: the SCENE says and writes of one THING, not alike)");
        doubts(Check.foot(HEAD + "doubts clash * 5;"), 5, 5, 0, 0, 0, 0);
        FilmFoot cut = Check.foot(HEAD + "doubts clash * 5 + 1;");
        cut.cut(0);
        cut.write(1, 0, false);
        cut.write(2, 0, false);
        doubts(cut, 1, 1, 6, 6, 1, 1);
        FilmFoot star = Check.foot(HEAD + "star 1;doubts clash * 5;");
        doubts(star, 5, 5, 5, 5, 0, 0);
    }

    private static void belief() {
        Check.sentence("belief (the WATCHER's trust)");
        doubts(Check.foot(HEAD + "doubts belief;"), 0, 9, 0, 9);
        doubts(Check.foot(HEAD + "doubts belief = 0;"), 1, 0, 1, 0);
    }

    /** p takes a yes, a yes, a no and, again, a yes; q a no, a yes, b yes and, again, a no. */
    private static void oddFact() {
        Check.sentence("odd (1: what he takes is not what he thought of that THING)");
        doubts(Check.foot(HEAD + "doubts odd * 7;"), 0, 0, 0, 7, 7, 0, 7, 7, 0, 7, 7, 0);
        String alike = "thing a;scene a yes under a yes;scene a no under a no;watcher p ear trust 0 walks 30;watcher q eye trust 9 walks 30;";
        doubts(Check.foot(alike + "doubts odd * 7 + 1;"), 1, 1, 8, 8, 8, 8);
        doubts(Check.foot(alike), 0, 0, 1, 1, 1, 1);
    }

    private static void oddOfNothingTaken() {
        Check.sentence("odd is 0 if he takes nothing");
        FilmFoot foot = Check.foot(HEAD + "doubts odd + 2;");
        foot.show();
        foot.cut(1);
        foot.cut(2);
        doubts(foot, 2, 3, 2, 2);
        FilmFoot child = Check.foot("thing a;scene a yes under a yes;scene a no under a yes;watcher p child trust 1 walks 9;watcher q ear trust 1 walks 9;");
        doubts(child, 0, 0, 0, 1);
    }

    /** With six THINGS the last one's thoughts stand right ahead of the next WATCHER's. */
    private static void oddOfNothingTakenAmidSix() {
        Check.sentence("odd is 0 if he takes nothing");
        FilmFoot foot = Check.foot("thing a;thing b;thing c;thing d;thing e;thing f;scene f yes under f yes;scene f yes under f yes;"
            + "watcher p ear trust 1 walks 9;watcher q ear trust 1 walks 9;watcher r child trust 1 walks 9;");
        foot.show();
        foot.cut(1);
        doubts(foot, 0, 0);
        Check.due("doubt of r", foot.watcher(2, 3), 0);
        for (int watcher = 0; watcher < 3; watcher++) {
            Check.due("thinks still, " + watcher, foot.thinks(watcher, 5), 1);
        }
    }

    private static void oddOfNothingThought() {
        Check.sentence("odd is 0 if he takes nothing, or thought nothing of it");
        doubts(Check.foot("thing a;thing b;scene a no under b no;scene b no under a no;watcher p ear trust 1 walks 9;watcher q eye trust 1 walks 9;"
            + "doubts odd;"), 0, 0, 0, 0);
        doubts(Check.foot("thing a;scene a no under a yes;watcher p ear trust 1 walks 9;watcher q eye trust 1 walks 9;doubts odd;"), 0, 0, 0, 0);
    }

    private static void seen() {
        Check.sentence("seen (the SCENE's number)");
        FilmFoot foot = Check.foot("thing a;" + "scene a yes under a no;".repeat(8) + "watcher p ear trust 1 walks 30;watcher q eye trust 1 walks 30;doubts seen;");
        doubts(foot, 0, 0, 1, 1, 2, 2, 3, 3, 4, 4, 5, 5, 6, 6, 7, 7);
        FilmFoot number = Check.foot("thing a;" + "scene a yes under a no;".repeat(8) + "watcher p ear trust 1 walks 30;watcher q eye trust 1 walks 30;doubts 0;");
        doubts(number, 0, 0, 0, 0, 0, 0, 0, 0, 0, 0, 0, 0, 0, 0, 0, 0, 0, 0);
    }

    private static void oneOrZero() {
        Check.sentence("Of not, and, or, < and = comes 1 or 0");
        law("not 0 + 4", 5);
        law("not 7 + 4", 4);
        law("(3 and 4) + 4", 5);
        law("(3 and 0) + 4", 4);
        law("(0 and 3) + 4", 4);
        law("(0 or 3) + 4", 5);
        law("(3 or 0) + 4", 5);
        law("(3 or 3) + 4", 5);
        law("(0 or 0) + 4", 4);
        law("(2 < 9) + 4", 5);
        law("(9 < 2) + 4", 4);
        law("(9 = 9) + 4", 5);
        law("(9 = 2) + 4", 4);
    }

    private static void whatIsNotZero() {
        Check.sentence("what is not 0 is so");
        law("(0 - 1) and 1", 1);
        law("(0 - 5) or 0", 1);
        law("not (0 - 5)", 0);
        law("9999 and 1", 1);
        law("256 * 256 or 0", 1);
        law("256 * 256 * 256 * 256 or 0", 0);
    }

    private static void intsWrap() {
        Check.sentence("ints wrap");
        law("256 * 256 * 256 * 128 < 0", 1);
        law("256 * 256 * 256 * 128 - 1 < 0", 0);
        law("256 * 256 * 256 * 127 + 256 * 256 * 255 + 256 * 255 + 255 + 1 < 0", 1);
        law("256 * 256 * 256 * 256 + 4", 4);
        law("0 - 256 * 256 * 256 * 128 = 256 * 256 * 256 * 128", 1);
    }

    private static void withoutDoubts() {
        Check.sentence("Without doubts: of who takes both: 2 * clash + odd; of others odd");
        FilmFoot foot = Check.foot("thing a;scene a yes under a no;scene a no under a yes;scene a yes under a yes;watcher p ear trust 1 walks 30;"
            + "watcher q eye trust 1 walks 30;watcher r both trust 4 walks 30;watcher s both trust 5 walks 30;watcher t child trust 1 walks 30;");
        int[][] want = {{0, 0, 2, 2, 0}, {1, 1, 5, 5, 0}, {2, 1, 6, 5, 0}};
        for (int[] doubts : want) {
            foot.show();
            for (int watcher = 0; watcher < 5; watcher++) {
                Check.due("doubt of " + watcher, foot.watcher(watcher, 3), doubts[watcher]);
            }
        }
    }

    private static void zeroToNine() {
        Check.sentence("His doubt is more by the E of doubts (0 to 9");
        law("0", 0);
        law("0 - 1", 0);
        law("0 - 9999", 0);
        law("1", 1);
        law("9", 9);
        law("10", 9);
        law("9999", 9);
        law("256 * 256 * 256 * 128", 0);
        law("256 * 256 * 256 * 128 - 1", 9);
    }
}
