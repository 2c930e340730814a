/** Terms 2 and 3, promises 14 to 18, 21 to 25, 29 to 33, 35: each sentence that names a bound of a question. */
public final class QuestionBoundsTest {
    private static final String AB = "thing a;thing b;";

    public static void main(String[] args) {
        judgedFromTheBegin();
        judgedCannotBe();
        judgedWalksOut();
        judgedInAtLast();
        endOfTheOthers();
        endNothingElse();
        firstOfEqualOnes();
        firstNobody();
        forgeNotShown();
        forgeJustThat();
        forgeByNone();
        forgeNobodyWalksOut();
        forgeWhoWouldWithout();
        forgeFewest();
        forgeLeast();
        spareNotShownNorCut();
        spareByNone();
        spareFewest();
        spareLeast();
        mentionsNow();
        fooledNobody();
        fooledSaidLast();
        fooledIn();
        swayNotZero();
        swayEqual();
        quarrelsOnce();
        quarrelsIn();
        couplesNothing();
        couplesNoneInTwo();
        couplesIn();
        clashesNow();
        waversTillTheEnd();
        waversOfNothing();
        movesNothing();
        movesNeverWalking();
        loneElse();
        loneNothing();
        agreeRounds();
        agreeLastToFirst();
        whoIn();
        Check.end();
    }

    private static void judged(String film, String evening, int cannot, int walk, int in) {
        FilmFoot foot = Check.foot(film);
        Check.due("evening() of " + evening, Check.evening(foot, evening), 0);
        Check.due("judged(0) of " + evening, foot.judged(0), cannot);
        Check.due("judged(1) of " + evening, foot.judged(1), walk);
        Check.due("judged(2) of " + evening, foot.judged(2), in);
    }

    /** p walks out by the first SCENE that is SHOWN, q by the third one. */
    private static final String WALKERS = AB + "scene a yes under a no;scene b yes under b no;watcher p ear trust 1 walks 1;watcher q eye trust 9 walks 3;doubts 1;";

    private static void judgedFromTheBegin() {
        Check.sentence("JUDGED: the EVENING from the begin");
        FilmFoot foot = Check.foot(WALKERS);
        Check.evening(foot, "cut 0;write 0 b yes;show;show;again;");
        foot.cut(0);
        foot.write(0, 1, true);
        foot.show();
        foot.show();
        foot.again();
        foot.show();
        Check.due("judged(0)", foot.judged(0), -1);
        Check.due("judged(1)", foot.judged(1), 2);
        Check.due("judged(2)", foot.judged(2), 1);
        Check.due("all stays as ahead", foot.count(3) + 10 * foot.count(4) + 100 * foot.count(5) + 1000 * foot.count(11), 1 + 10 + 6000);
    }

    private static void judgedCannotBe() {
        Check.sentence("the first line (from 0) that can't be (lines that can't be are left out)");
        judged(WALKERS, "", -1, -1, 2);
        judged(WALKERS, "again;", 0, -1, 2);
        judged(WALKERS, "again;again;show;again;", 0, 2, 1);
        judged(WALKERS, "show;show;again;", -1, 0, 1);
        judged(WALKERS, "show;show;show;again;", 2, 0, 1);
        judged(WALKERS, "show;write 0 a yes;", 1, 0, 1);
        judged(WALKERS, "write 2 a yes;", 0, -1, 2);
        judged(WALKERS, "cut 2;", 0, -1, 2);
        judged(WALKERS, "cut 1;cut 1;", 1, -1, 2);
        judged(WALKERS, "talk p q;show;talk p q;talk q p;", 2, 1, 1);
        judged(WALKERS, "show;again;show;again;show;", 1, 0, 0);
        judged(WALKERS, "cut 1;".repeat(39) + "again;", 1, -1, 2);
        judged(WALKERS, "write 1 a no;".repeat(39) + "again;", 39, -1, 2);
    }

    private static void judgedWalksOut() {
        Check.sentence("the first line by which somebody walks out");
        judged(WALKERS, "cut 0;cut 1;show;show;", -1, 2, 1);
        judged(WALKERS, "show;show;again;show;", -1, 0, 0);
        String later = AB + "scene a yes under a no;scene a no under a no;watcher p both trust 1 walks 9;watcher q ear trust 1 walks 1;";
        judged(later, "show;show;", -1, 1, 1);
        judged(later, "cut 1;show;show;", -1, -1, 2);
        judged(later, "show;".repeat(2) + "again;".repeat(38), 3, 1, 1);
    }

    private static void judgedInAtLast() {
        Check.sentence("how many are in at last");
        judged("", "again;", -1, -1, 0);
        judged("watcher p ear trust 1 walks 1;", "", -1, -1, 1);
        String six = "thing a;scene a yes under a no;scene a no under a no;";
        for (char name = 'p'; name <= 'u'; name++) {
            six += "watcher " + name + " eye trust 1 walks " + (name - 'p' + 1) + ";";
        }
        judged(six + "doubts 1;", "", -1, -1, 6);
        judged(six + "doubts 1;", "show;show;", -1, 0, 4);
        judged(six + "doubts 1;", "show;show;again;show;show;again;show;show;", -1, 0, 0);
        judged(six + "doubts 9;", "show;", -1, 0, 0);
    }

    private static void endOfTheOthers() {
        Check.sentence("END: what a WATCHER THINKS of a THING when the other SCENES have been SHOWN");
        FilmFoot foot = Check.foot(AB + "scene a yes under b no;scene a no under b yes;watcher p ear trust 1 walks 9;watcher q eye trust 1 walks 9;");
        int[] want = {0, -1, -1, 1};
        for (int shown = 0; shown <= 2; shown++) {
            for (int view = 0; view < 4; view++) {
                Check.due("end of " + view + " with " + shown + " SHOWN", foot.end(view / 2, view % 2), want[view]);
            }
            Check.due("SHOWN", foot.count(3), shown);
            foot.show();
        }
        foot.again();
        Check.due("behind a reissue", foot.end(0, 0), 0);
        FilmFoot out = Check.foot(AB + "scene a yes under b no;scene a no under b yes;watcher p ear trust 1 walks 1;doubts 1;");
        Check.due("he walks out ahead of the END", out.end(0, 0), 1);
        out.show();
        Check.due("he is out", out.end(0, 0), 1);
    }

    private static void endNothingElse() {
        Check.sentence("nothing else being done");
        FilmFoot foot = Check.foot(AB + "scene a yes under b no;scene a no under b yes;watcher p ear trust 1 walks 9;watcher q eye trust 9 walks 9;");
        Check.evening(foot, "cut 0;cut 1;talk p q;");
        Check.due("nothing of the EVENING", foot.end(0, 0), 0);
        Check.due("no TALK", foot.end(1, 0), -1);
        for (int what = 3; what <= 11; what++) {
            Check.due("count(" + what + ")", foot.count(what), new int[] {0, 0, 3, 0, 0, 8, 3, 0, 0}[what - 3]);
        }
    }

    private static void firstOfEqualOnes() {
        Check.sentence("FIRST: who walks out first then (of equal ones the first by numbers), by which SCENE");
        FilmFoot foot = Check.foot(AB + "scene a yes under b no;scene a no under b yes;watcher p ear trust 1 walks 2;watcher q eye trust 1 walks 1;"
            + "watcher r eye trust 1 walks 1;watcher s eye trust 1 walks 2;doubts 1;");
        Check.due("q ahead of r", foot.first(0), 1);
        Check.due("by SCENE 0", foot.first(1), 0);
        foot.show();
        Check.due("p ahead of s", foot.first(0), 0);
        Check.due("by SCENE 1", foot.first(1), 1);
        FilmFoot last = Check.foot("thing a;" + "scene a yes under a no;".repeat(8) + "watcher p ear trust 1 walks 9;watcher q ear trust 1 walks 8;doubts 1;");
        Check.due("the last SCENE, who", last.first(0), 1);
        Check.due("the last SCENE", last.first(1), 7);
    }

    private static void firstNobody() {
        Check.sentence("FIRST, what 0: who, 1: the SCENE; NONE: others, nobody");
        FilmFoot foot = Check.foot(AB + "scene a yes under b no;watcher p ear trust 1 walks 1;watcher q ear trust 1 walks 2;doubts 1;");
        foot.show();
        Check.due("all SHOWN", foot.first(0), -1);
        Check.due("all SHOWN, SCENE", foot.first(1), -1);
        foot.again();
        Check.due("who is out does not walk out", foot.first(0), 1);
        foot.show();
        foot.again();
        Check.due("all are out", foot.first(0), -1);
        Check.due("all are out, SCENE", foot.first(1), -1);
        Check.due("no doubt", Check.foot(AB + "scene a yes under b no;watcher p ear trust 1 walks 1;").first(0), -1);
        Check.due("nothing told", new FilmFoot().first(0), -1);
    }

    private static void forgeNotShown() {
        Check.sentence("the fewest SCENES not SHOWN yet to be WRITTEN anew");
        FilmFoot foot = Check.foot(AB + "scene b yes under b yes;scene b yes under b yes;scene b yes under b yes;watcher p eye trust 1 walks 9;");
        int[] want = {1, 2, 4, -1};
        for (int shown = 0; shown <= 3; shown++) {
            Check.due("a no with " + shown + " SHOWN", foot.forge(0, 0, false), want[shown]);
            foot.show();
        }
        foot.again();
        foot.cut(0);
        foot.cut(1);
        Check.due("one that is cut is WRITTEN, too", foot.forge(0, 0, true), 1);
        Check.due("none was", foot.scene(0, 2), 1);
    }

    private static void forgeJustThat() {
        Check.sentence("each with just that THING, IS");
        FilmFoot foot = Check.foot(AB + "scene a no under a no;scene a yes under a no;watcher p child trust 1 walks 9;watcher q eye trust 1 walks 9;");
        Check.due("only SCENE 1 says so", foot.forge(0, 0, true), 2);
        Check.due("a child hears nothing of b", foot.forge(0, 1, true), -1);
        Check.due("an eye reads it", foot.forge(1, 1, false), 1);
        FilmFoot both = Check.foot("thing a;scene a no under a yes;scene a no under a yes;watcher p child trust 1 walks 9;watcher q eye trust 1 walks 9;");
        Check.due("the least of two", both.forge(0, 0, false), 1);
        Check.due("the last one", both.forge(1, 0, false), 2);
    }

    private static void forgeByNone() {
        Check.sentence("FORGE, as bits; NONE: others, by none");
        FilmFoot foot = Check.foot(AB + "scene a yes under a no;watcher p ear trust 1 walks 9;watcher q eye trust 1 walks 9;");
        Check.due("he THINKS so without", foot.forge(0, 0, true), 0);
        Check.due("an ear does not read", foot.forge(0, 0, false), -1);
        foot.show();
        Check.due("all SHOWN, so", foot.forge(1, 0, false), 0);
        Check.due("all SHOWN, not so", foot.forge(1, 0, true), -1);
        Check.due("all SHOWN, nothing", foot.forge(1, 1, true), -1);
        Check.due("no SCENES", Check.foot("thing a;watcher p eye trust 1 walks 9;").forge(0, 0, true), -1);
    }

    private static void forgeNobodyWalksOut() {
        Check.sentence("nobody walks out by these who would not without");
        String film = "thing a;scene a yes under a yes;watcher p eye trust 1 walks 9;";
        Check.due("q would", Check.foot(film + "watcher q both trust 1 walks 2;").forge(0, 0, false), -1);
        Check.due("q nearly", Check.foot(film + "watcher q both trust 1 walks 3;").forge(0, 0, false), 1);
        Check.due("he himself would", Check.foot("thing a;scene a yes under a yes;watcher p both trust 9 walks 2;").forge(0, 0, false), -1);
        Check.due("he himself nearly", Check.foot("thing a;scene a yes under a yes;watcher p both trust 9 walks 3;").forge(0, 0, false), 1);
    }

    private static void forgeWhoWouldWithout() {
        Check.sentence("who would not without");
        String film = "thing a;scene a yes under a yes;scene a yes under a yes;watcher p eye trust 1 walks 9;watcher q both trust 1 walks ";
        Check.due("q walks out without, too, later", Check.foot(film + "2;doubts 1 + clash;").forge(0, 0, false), 2);
        FilmFoot out = Check.foot(film + "1;doubts 1 - seen + clash;");
        out.show();
        Check.due("q is out already", out.forge(0, 0, false), 2);
        Check.due("one who is in by it does no harm", Check.foot("thing a;scene a yes under a no;watcher p eye trust 1 walks 9;watcher q both trust 1 walks 2;")
            .forge(0, 0, true), 1);
    }

    /** To write 1 alone, or 0 alone, makes a clash by which q walks out; to write both does not; but to write 2 is fewer. */
    private static void forgeFewest() {
        Check.sentence("so that he THINKS so at the END, and nobody walks out by these who would not without: the fewest");
        FilmFoot foot = Check.foot(AB + "scene b yes under b yes;scene a no under a no;scene b yes under b yes;watcher p eye trust 1 walks 9;"
            + "watcher q ear trust 1 walks 1;star 1;doubts clash;");
        Check.due("one, and no less set", foot.forge(0, 0, true), 4);
        FilmFoot two = Check.foot(AB + "scene b yes under b yes;scene a no under a no;watcher p eye trust 1 walks 9;"
            + "watcher q ear trust 1 walks 1;star 1;doubts clash;");
        Check.due("two, if there is no third", two.forge(0, 0, true), 3);
        FilmFoot all = Check.foot("thing a;" + "scene a no under a no;".repeat(8) + "watcher p eye trust 1 walks 1;");
        Check.due("all eight", all.forge(0, 0, true), 255);
    }

    private static void forgeLeast() {
        Check.sentence("the fewest; of equal ones the least set (bits)");
        FilmFoot one = Check.foot(AB + "scene b yes under b yes;scene b yes under b yes;scene b yes under b yes;watcher p eye trust 1 walks 9;");
        Check.due("1 of 1, 2, 4", one.forge(0, 0, true), 1);
        FilmFoot pairs = Check.foot(AB + "scene b yes under b yes;scene a no under a no;scene b yes under b yes;scene a no under a no;"
            + "watcher p eye trust 1 walks 1;");
        Check.due("10, as 8 alone would drive him out", pairs.forge(0, 0, true), 10);
        FilmFoot ears = Check.foot(AB + "scene b yes under b yes;scene b yes under b yes;scene a no under a no;watcher p eye trust 1 walks 9;"
            + "watcher q ear trust 1 walks 1;star 2;doubts clash;");
        Check.due("5 of 5 and 6", ears.forge(0, 0, true), 5);
    }

    private static void spareNotShownNorCut() {
        Check.sentence("SPARE a WATCHER: the fewest SCENES not SHOWN yet (nor cut) to be CUT so that he is in at the END");
        FilmFoot foot = Check.foot("thing a;" + "scene a yes under a no;".repeat(3) + "watcher p child trust 1 walks 3;doubts clash;");
        Check.due("one of three", foot.spare(0), 1);
        foot.show();
        Check.due("one of two", foot.spare(0), 2);
        foot.cut(1);
        Check.due("none, as one is cut", foot.spare(0), 0);
        foot.show();
        foot.show();
        Check.due("all SHOWN", foot.spare(0), 0);
        foot.again();
        Check.due("one that is cut is not cut again", foot.spare(0), 5);
        FilmFoot two = Check.foot("thing a;" + "scene a yes under a no;".repeat(3) + "watcher p child trust 1 walks 2;doubts clash;");
        two.cut(0);
        Check.due("not one that is cut", two.spare(0), 2);
    }

    private static void spareByNone() {
        Check.sentence("SPARE, as bits; NONE: others, he is out, by none");
        FilmFoot foot = Check.foot("thing a;" + "scene a yes under a no;".repeat(2) + "watcher p child trust 1 walks 2;watcher q child trust 1 walks 1;"
            + "watcher r child trust 1 walks 9;doubts 1;");
        Check.due("by none", foot.spare(0), -1);
        Check.due("in without", foot.spare(2), 0);
        foot.show();
        Check.due("he is out", foot.spare(1), -1);
        foot.show();
        Check.due("he is out when all are SHOWN", foot.spare(0), -1);
        Check.due("he is in when all are SHOWN", foot.spare(2), 0);
    }

    private static void spareFewest() {
        Check.sentence("the fewest SCENES not SHOWN yet (nor cut) to be CUT");
        String film = "thing a;" + "scene a yes under a no;".repeat(3) + "doubts clash * (seen + 1);watcher p child trust 1 walks ";
        int[] want = {7, 6, 5, 4, 2, 1, 0};
        for (int walks = 1; walks <= 7; walks++) {
            Check.due("walks " + walks, Check.foot(film + walks + ";").spare(0), want[walks - 1]);
        }
        FilmFoot all = Check.foot("thing a;" + "scene a yes under a no;".repeat(8) + "doubts clash;watcher p child trust 1 walks 1;");
        Check.due("all eight", all.spare(0), 255);
    }

    private static void spareLeast() {
        Check.sentence("of equal ones the least set");
        String film = "thing a;" + "scene a yes under a no;".repeat(4) + "doubts clash;watcher p child trust 1 walks ";
        int[] want = {15, 7, 3, 1, 0};
        for (int walks = 1; walks <= 5; walks++) {
            Check.due("walks " + walks, Check.foot(film + walks + ";").spare(0), want[walks - 1]);
        }
    }

    private static void mentionsNow() {
        Check.sentence("MENTIONS of a THING: SCENES that say something of it now, that write something of it (as bits)");
        FilmFoot foot = Check.foot(AB + "scene a yes under b no;scene b yes under a no;scene a yes under b no;star 2;");
        Check.due("a said", foot.mentions(0, 0), 5);
        Check.due("b said", foot.mentions(1, 0), 2);
        Check.due("a written", foot.mentions(0, 1), 2);
        Check.due("b written", foot.mentions(1, 1), 5);
        foot.cut(2);
        foot.write(2, 0, true);
        Check.due("a said but by a cut one", foot.mentions(0, 0), 1);
        Check.due("a written below a cut one", foot.mentions(0, 1), 6);
        FilmFoot eight = Check.foot(AB + "scene a yes under a no;".repeat(8));
        Check.due("all eight say", eight.mentions(0, 0), 255);
        Check.due("all eight write", eight.mentions(0, 1), 255);
        Check.due("none", eight.mentions(1, 0) + eight.mentions(1, 1), 0);
    }

    private static void fooledNobody() {
        Check.sentence("(nobody if it is not said, or they think nothing)");
        FilmFoot foot = Check.foot(AB + "scene a yes under b no;watcher p ear trust 1 walks 9;watcher q eye trust 1 walks 9;");
        foot.show();
        Check.due("b is not said", foot.fooled(1), 0);
        Check.due("q thinks nothing of a", foot.fooled(0), 0);
        foot.again();
        foot.cut(0);
        Check.due("a is said no more", foot.fooled(0), 0);
        Check.due("no WATCHERS", Check.foot("thing a;scene a yes under a no;").fooled(0), 0);
    }

    private static void fooledSaidLast() {
        Check.sentence("another way than it is said last, of all SCENES as they are now");
        FilmFoot foot = Check.foot(AB + "scene a yes under a no;scene a no under b no;scene b no under b no;watcher p ear trust 1 walks 9;watcher q eye trust 1 walks 9;star 1;");
        foot.show();
        Check.due("said no last", foot.fooled(0), 1);
        foot.cut(1);
        Check.due("said yes last", foot.fooled(0), 2);
        foot.undo();
        foot.undo();
        foot.write(0, 0, true);
        foot.show();
        Check.due("the star says yes last", foot.fooled(0), 0);
        foot.show();
        foot.show();
        foot.again();
        foot.write(0, 0, false);
        Check.due("the star says no last", foot.fooled(0), 3);
    }

    private static void fooledIn() {
        Check.sentence("FOOLED: WATCHERS in who THINK a THING another way");
        FilmFoot foot = Check.foot("thing a;scene a yes under a no;watcher p eye trust 1 walks 1;watcher q eye trust 1 walks 2;watcher r ear trust 1 walks 2;doubts 1;");
        foot.show();
        Check.due("q", foot.fooled(0), 2);
        foot.again();
        foot.show();
        Check.due("all are out", foot.fooled(0), 0);
    }

    private static void swayNotZero() {
        Check.sentence("would change the most THINGS, if that is not 0");
        FilmFoot foot = Check.foot(AB + "scene a yes under a no;watcher p ear trust 4 walks 9;watcher q eye trust 4 walks 9;");
        Check.due("nobody THINKS", foot.sway(), -1);
        foot.show();
        Check.due("nobody hears", foot.sway(), -1);
        Check.due("nobody", new FilmFoot().sway(), -1);
        FilmFoot one = Check.foot("thing a;scene a yes under a no;watcher p ear trust 9 walks 9;");
        one.show();
        Check.due("one alone", one.sway(), -1);
        FilmFoot out = Check.foot("thing a;scene a yes under a no;watcher p ear trust 9 walks 1;watcher q child trust 9 walks 9;watcher r child trust 9 walks 9;doubts 1;");
        out.show();
        Check.due("of one who is out", out.sway(), -1);
    }

    private static void swayEqual() {
        Check.sentence("of equal ones the first by the one, then the other one");
        FilmFoot foot = Check.foot(AB + "scene a yes under a no;scene b no under b no;watcher p child trust 9 walks 9;watcher q ear trust 9 walks 9;"
            + "watcher r eye trust 9 walks 9;watcher s child trust 9 walks 9;");
        foot.show();
        Check.due("q to p", foot.sway(), 8);
        foot.talk(1, 0);
        Check.due("p to r", foot.sway(), 2);
        foot.talk(0, 2);
        Check.due("p to s", foot.sway(), 3);
        foot.talk(0, 3);
        Check.due("none", foot.sway(), -1);
        FilmFoot most = Check.foot(AB + "scene a yes under a no;scene b no under b yes;watcher p child trust 9 walks 9;watcher q child trust 9 walks 9;watcher r ear trust 9 walks 9;");
        most.show();
        most.talk(2, 0);
        most.show();
        Check.due("two THINGS of r to q, though p to q is one", most.sway(), 17);
        FilmFoot six = Check.foot("thing a;scene a yes under a no;watcher p child trust 1 walks 9;watcher q child trust 1 walks 9;watcher r child trust 1 walks 9;"
            + "watcher s child trust 1 walks 9;watcher t child trust 1 walks 9;watcher u ear trust 1 walks 9;");
        six.show();
        Check.due("the last one to the first", six.sway(), 40);
        for (int other = 0; other < 4; other++) {
            six.talk(5, other);
        }
        Check.due("the first one to the last but one", six.sway(), 4);
    }

    private static void quarrelsOnce() {
        Check.sentence("QUARRELS: pairs who are in and THINK some THING yes and no");
        FilmFoot foot = Check.foot(AB + "scene a yes under a no;scene b yes under b no;watcher p ear trust 1 walks 9;watcher q eye trust 1 walks 9;watcher r child trust 1 walks 9;");
        Check.due("nothing", foot.quarrels(), 0);
        foot.show();
        Check.due("yes and no; nothing is no quarrel", foot.quarrels(), 1);
        foot.show();
        Check.due("two THINGS, one pair", foot.quarrels(), 1);
        FilmFoot six = Check.foot("thing a;scene a yes under a no;watcher p ear trust 1 walks 9;watcher q ear trust 1 walks 9;watcher r ear trust 1 walks 9;"
            + "watcher s eye trust 1 walks 9;watcher t eye trust 1 walks 9;watcher u eye trust 1 walks 9;");
        six.show();
        Check.due("three by three", six.quarrels(), 9);
    }

    private static void quarrelsIn() {
        Check.sentence("pairs who are in");
        FilmFoot foot = Check.foot("thing a;scene a yes under a no;watcher p ear trust 1 walks 1;watcher q eye trust 1 walks 2;watcher r eye trust 1 walks 9;watcher s ear trust 1 walks 9;doubts 1;");
        foot.show();
        Check.due("p is out", foot.quarrels(), 2);
        foot.again();
        foot.show();
        Check.due("q, too", foot.quarrels(), 1);
    }

    private static void couplesNothing() {
        Check.sentence("who THINK alike of all THINGS (nothing, too)");
        FilmFoot foot = Check.foot(AB + "scene a yes under a no;watcher p ear trust 1 walks 9;watcher q child trust 1 walks 9;watcher r child trust 1 walks 9;watcher s eye trust 1 walks 9;");
        Check.due("four nothing", foot.couples(), 2);
        foot.show();
        Check.due("two nothing", foot.couples(), 1);
        foot.talk(0, 1);
        Check.due("yes twice, nothing, no", foot.couples(), 1);
        foot.talk(3, 2);
        Check.due("yes twice, no twice", foot.couples(), 2);
        Check.due("no THINGS at all", Check.foot("watcher p ear trust 1 walks 9;watcher q ear trust 1 walks 9;").couples(), 1);
    }

    private static void couplesNoneInTwo() {
        Check.sentence("the most pairs of those who are in, none in two");
        String watchers = "";
        for (int count = 0; count <= 6; count++) {
            Check.due("of " + count, Check.foot("thing a;" + watchers).couples(), count / 2);
            watchers += "watcher " + (char) ('p' + count) + " ear trust 1 walks 9;";
        }
        FilmFoot apart = Check.foot("thing a;scene a yes under a no;watcher p ear trust 1 walks 9;watcher q eye trust 1 walks 9;watcher r ear trust 1 walks 9;"
            + "watcher s eye trust 1 walks 9;watcher t child trust 1 walks 9;watcher u child trust 1 walks 9;");
        apart.show();
        Check.due("the first and the third, the second and the fourth", apart.couples(), 3);
    }

    private static void couplesIn() {
        Check.sentence("the most pairs of those who are in");
        FilmFoot foot = Check.foot("thing a;scene a yes under a yes;watcher p ear trust 1 walks 9;watcher q ear trust 1 walks 9;watcher r ear trust 1 walks 1;"
            + "watcher s ear trust 1 walks 9;watcher t ear trust 1 walks 1;doubts 1;");
        Check.due("of five", foot.couples(), 2);
        foot.show();
        Check.due("of three", foot.couples(), 1);
    }

    private static void clashesNow() {
        Check.sentence("CLASHES: SCENES (bits) that say and write of one THING, not alike, as they are now");
        FilmFoot foot = Check.foot(AB + "scene a yes under a no;scene a yes under a yes;scene a yes under b no;scene a yes under a yes;star 3;");
        Check.due("SCENE 0 alone, as the star says yes still", foot.clashes(), 1);
        foot.cut(0);
        Check.due("none", foot.clashes(), 0);
        foot.write(1, 0, false);
        Check.due("2, and 8 by the star", foot.clashes(), 10);
        foot.show();
        foot.show();
        foot.show();
        foot.show();
        Check.due("SHOWN ones, too", foot.clashes(), 10);
        Check.due("all eight", Check.foot("thing a;" + "scene a yes under a no;".repeat(8)).clashes(), 255);
    }

    private static void waversTillTheEnd() {
        Check.sentence("WAVERS of a WATCHER: how often, till the END, what he takes is not what he thought of that THING");
        FilmFoot foot = Check.foot("thing a;scene a yes under a no;scene a no under a no;scene a yes under a no;watcher p ear trust 1 walks 9;watcher q eye trust 1 walks 9;"
            + "watcher r ear trust 1 walks 1;");
        int[][] want = {{2, 0, 1}, {2, 0, 1}, {1, 0, 0}, {0, 0, 0}};
        for (int shown = 0; shown <= 3; shown++) {
            for (int watcher = 0; watcher < 3; watcher++) {
                Check.due("wavers(" + watcher + ") with " + shown + " SHOWN", foot.wavers(watcher), want[shown][watcher]);
            }
            foot.show();
        }
        FilmFoot eight = Check.foot("thing a;" + "scene a yes under a no;scene a no under a yes;".repeat(4) + "watcher p ear trust 1 walks 30;");
        Check.due("seven times", eight.wavers(0), 7);
    }

    private static void waversOfNothing() {
        Check.sentence("what he takes is not what he thought of that THING");
        FilmFoot foot = Check.foot(AB + "scene a yes under b no;scene b no under a yes;scene a no under b yes;watcher p ear trust 1 walks 9;watcher q eye trust 1 walks 9;watcher r child trust 1 walks 9;");
        Check.due("of a alone", foot.wavers(0), 1);
        Check.due("of b alone", foot.wavers(1), 1);
        Check.due("a child takes nothing", foot.wavers(2), 0);
        foot.cut(2);
        Check.due("nothing is said", foot.wavers(0), 0);
        Check.due("it is written", foot.wavers(1), 1);
    }

    private static void movesNothing() {
        Check.sentence("would not THINK alike (thinking nothing at first");
        FilmFoot foot = Check.foot("thing a;thing b;thing c;thing d;scene a yes under a yes;scene b yes under b no;scene c yes under a yes;");
        Check.due("b, and c, of which an eye THINKS nothing", foot.moves(), 6);
        foot.write(2, 3, true);
        Check.due("and d, of which an ear THINKS nothing", foot.moves(), 14);
        foot.cut(0);
        Check.due("and a, which is cut", foot.moves(), 15);
        Check.due("no SCENES", Check.foot(AB).moves(), 0);
    }

    private static void movesNeverWalking() {
        Check.sentence("who saw all SCENES from 0 on, as they are now");
        FilmFoot foot = Check.foot("thing a;scene a yes under a yes;scene a yes under a no;watcher p ear trust 1 walks 1;watcher q eye trust 1 walks 1;doubts 9;");
        Check.due("ahead", foot.moves(), 1);
        foot.show();
        Check.due("amid, and all out", foot.moves(), 1);
        foot.show();
        Check.due("behind", foot.moves(), 1);
        foot.again();
        foot.write(1, 0, true);
        Check.due("written anew", foot.moves(), 0);
    }

    private static void loneElse() {
        Check.sentence("THINGS of which he THINKS something that nobody else who is in does THINK so");
        FilmFoot foot = Check.foot(AB + "scene a yes under a no;scene b no under b no;watcher p ear trust 1 walks 9;watcher q eye trust 1 walks 9;watcher r ear trust 1 walks 2;doubts 1;");
        foot.show();
        Check.due("p with r", foot.lone(0), 0);
        Check.due("q alone", foot.lone(1), 1);
        foot.show();
        Check.due("p, as r is out", foot.lone(0), 1);
        Check.due("r, who is out, with p", foot.lone(2), 0);
        FilmFoot one = Check.foot(AB + "scene a yes under b no;watcher p ear trust 1 walks 9;");
        one.show();
        Check.due("one alone", one.lone(0), 1);
    }

    private static void loneNothing() {
        Check.sentence("LONE of a WATCHER: THINGS of which he THINKS something");
        FilmFoot foot = Check.foot(AB + "scene a yes under a yes;watcher p child trust 1 walks 9;watcher q ear trust 1 walks 9;watcher r ear trust 1 walks 9;");
        foot.cut(0);
        Check.due("nothing yet", foot.lone(0), 0);
        foot.show();
        Check.due("nothing", foot.lone(0), 0);
        Check.due("all nothing", foot.lone(1), 0);
    }

    private static void agreeRounds() {
        Check.sentence("behind how many rounds (0 to 20) of TALK");
        FilmFoot foot = Check.foot("thing a;scene a yes under a no;watcher p ear trust 1 walks 9;watcher q child trust 1 walks 9;watcher r child trust 1 walks 9;");
        Check.due("0, nobody THINKS", foot.agree(), 0);
        foot.show();
        Check.due("1, q and r hear", foot.agree(), 1);
        Check.due("nothing was TALKED", foot.blank(1), 1);
        FilmFoot two = Check.foot("thing a;scene a yes under a no;watcher p child trust 1 walks 9;watcher q child trust 1 walks 9;watcher r ear trust 1 walks 9;");
        two.show();
        Check.due("2, p hears r, then q hears p", two.agree(), 2);
        FilmFoot six = Check.foot("thing a;scene a yes under a no;watcher p child trust 1 walks 9;watcher q child trust 1 walks 9;watcher r child trust 1 walks 9;"
            + "watcher s child trust 1 walks 9;watcher t child trust 1 walks 9;watcher u ear trust 1 walks 9;");
        six.show();
        Check.due("2 of six", six.agree(), 2);
        FilmFoot firm = Check.foot("thing a;scene a yes under a no;watcher p ear trust 4 walks 9;watcher q eye trust 4 walks 9;");
        firm.show();
        Check.due("0, as nothing changes, though they do not agree", firm.agree(), 0);
        Check.due("0 of nobody", new FilmFoot().agree(), 0);
    }

    private static void agreeLastToFirst() {
        Check.sentence("each WATCHER who is in TALKS to the next one who is in (the last one to the first), by numbers");
        FilmFoot last = Check.foot("thing a;scene a yes under a no;watcher p child trust 1 walks 9;watcher q ear trust 1 walks 9;");
        last.show();
        Check.due("the last one to the first", last.agree(), 1);
        FilmFoot one = Check.foot("thing a;scene a yes under a no;watcher p both trust 9 walks 2;watcher q ear trust 9 walks 9;watcher r both trust 9 walks 2;");
        one.show();
        Check.due("one who is in alone", one.agree(), 0);
        FilmFoot skip = Check.foot("thing a;scene a yes under a no;watcher p ear trust 1 walks 9;watcher q both trust 9 walks 2;watcher r child trust 1 walks 9;watcher s both trust 1 walks 2;");
        skip.show();
        Check.due("past those who are out", skip.agree(), 1);
        FilmFoot back = Check.foot("thing a;scene a yes under a no;watcher o both trust 9 walks 2;watcher p child trust 1 walks 9;watcher q child trust 1 walks 9;"
            + "watcher r ear trust 1 walks 9;watcher s both trust 1 walks 2;");
        back.show();
        Check.due("the last one who is in to the first who is", back.agree(), 2);
    }

    private static void whoIn() {
        Check.sentence("WATCHERS in who THINK a THING so (1 yes, 0 no, NONE nothing), as bits");
        FilmFoot foot = Check.foot("thing a;scene a yes under a no;watcher p ear trust 1 walks 1;watcher q ear trust 1 walks 2;watcher r eye trust 1 walks 1;"
            + "watcher s eye trust 1 walks 2;watcher t child trust 1 walks 1;watcher u child trust 1 walks 2;doubts 1;");
        Check.due("nothing at first", foot.who(0, -1), 63);
        foot.show();
        Check.due("yes", foot.who(0, 1), 2);
        Check.due("no", foot.who(0, 0), 8);
        Check.due("nothing", foot.who(0, -1), 32);
    }
}
