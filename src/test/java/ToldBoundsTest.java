import java.util.NoSuchElementException;

/** Terms 3, promises 26 to 28, 34, 36 to 38: each sentence that names a bound of what is TOLD, of odds, CENSORS, YEARS and MARKS. */
public final class ToldBoundsTest {
    private static final String AB = "thing a;thing b;";
    private static final String FILM = AB + "scene a yes under a no;scene b yes under b no;scene a no under b yes;"
        + "watcher p ear trust 1 walks 9;watcher q eye trust 1 walks 9;";

    public static void main(String[] args) {
        toldYesNoNothing();
        toldOfTheSameTwo();
        toldStays();
        toldNotShownNorCut();
        setsNothingTold();
        setsNoSet();
        setsInAllInSome();
        askLessThanAll();
        askNothingTold();
        askEqual();
        askLeast();
        askOfAllSets();
        chanceOdds();
        chanceCut();
        chanceNotShown();
        restsZeroToNine();
        restsEqual();
        restsLeastFirst();
        restsNoneSuch();
        yearsSeeds();
        yearsSteps();
        yearsAsAhead();
        yearsIfItCanBe();
        yearsAddedUp();
        yearsDraws();
        yearsWritings();
        marksZeroToThree();
        marksNothingOnIt();
        marksHoldAll();
        marksNothingUndone();
        Check.end();
    }

    private static void sets(FilmFoot foot, String when, int count, int all, int some) {
        Check.due(when + ", sets(0)", foot.sets(0), count);
        Check.due(when + ", sets(1)", foot.sets(1), all);
        Check.due(when + ", sets(2)", foot.sets(2), some);
    }

    private static void toldYesNoNothing() {
        Check.sentence("that at the END a WATCHER THINKS a THING yes, no, or nothing of it, some SCENES not SHOWN yet (nor cut) being CUT");
        FilmFoot yes = Check.foot(FILM);
        Check.due("yes", yes.tell(0, 0, 1), true);
        sets(yes, "2 is cut, 0 is not", 2, 4, 6);
        FilmFoot no = Check.foot(FILM);
        Check.due("no", no.tell(0, 0, 0), true);
        sets(no, "2 is not cut", 4, 0, 3);
        FilmFoot nothing = Check.foot(FILM);
        Check.due("nothing", nothing.tell(0, 0, -1), true);
        sets(nothing, "0 and 2 are cut", 2, 5, 7);
        Check.due("2 is none", nothing.tell(0, 0, 2), false);
        Check.due("-2 is none", nothing.tell(0, 0, -2), false);
        sets(nothing, "as ahead", 2, 5, 7);
    }

    private static void toldOfTheSameTwo() {
        Check.sentence("a later one of the same two in place of the elder");
        FilmFoot foot = Check.foot(FILM);
        foot.tell(0, 0, 1);
        foot.tell(0, 0, 0);
        Check.due("one is TOLD", foot.count(10), 1);
        sets(foot, "no", 4, 0, 3);
        foot.tell(0, 0, 0);
        Check.due("the same once more", foot.count(10), 1);
        foot.tell(0, 1, 1);
        foot.tell(1, 0, 0);
        Check.due("another THING, another WATCHER", foot.count(10), 3);
        sets(foot, "a no, b yes", 2, 0, 1);
    }

    private static void toldStays() {
        Check.sentence("TOLD: that at the END");
        FilmFoot foot = Check.foot(FILM);
        foot.tell(0, 0, 1);
        foot.show();
        foot.show();
        foot.cut(2);
        Check.due("TOLD still", foot.count(10), 1);
        sets(foot, "2 is cut by hand", 1, 0, 0);
        foot.undo();
        Check.due("TOLD is not undone", foot.count(10), 1);
        sets(foot, "2 is cut", 1, 4, 4);
    }

    private static void toldNotShownNorCut() {
        Check.sentence("some SCENES not SHOWN yet (nor cut) being CUT, unknown ones");
        FilmFoot foot = Check.foot("thing a;" + "scene a yes under a no;".repeat(8) + "watcher p ear trust 1 walks 9;");
        sets(foot, "of eight", 256, 0, 255);
        foot.show();
        sets(foot, "one SHOWN", 128, 0, 254);
        foot.cut(7);
        sets(foot, "one cut", 64, 0, 126);
        foot.tell(0, 0, 1);
        sets(foot, "yes by the one SHOWN", 64, 0, 126);
        foot.tell(0, 0, -1);
        sets(foot, "nothing", 0, -1, -1);
    }

    private static void setsNothingTold() {
        Check.sentence("SETS of these by which all TOLD is so");
        sets(Check.foot(FILM), "nothing TOLD", 8, 0, 7);
        sets(new FilmFoot(), "no SCENES", 1, 0, 0);
        FilmFoot foot = Check.foot(FILM);
        foot.show();
        foot.show();
        foot.show();
        sets(foot, "all SHOWN", 1, 0, 0);
        foot.tell(0, 0, 0);
        sets(foot, "all SHOWN, and so", 1, 0, 0);
    }

    private static void setsNoSet() {
        Check.sentence("NONE: others, no set (but 0)");
        FilmFoot foot = Check.foot(FILM);
        foot.tell(0, 1, 0);
        sets(foot, "b is never said no", 0, -1, -1);
        Check.due("sets(3)", foot.sets(3), -1);
        Check.due("sets(-1)", foot.sets(-1), -1);
        foot.tell(0, 1, 1);
        Check.due("sets(0) then", foot.sets(0), 4);
    }

    private static void setsInAllInSome() {
        Check.sentence("how many; those in all, in some (bits)");
        FilmFoot foot = Check.foot("thing a;thing b;scene a yes under a yes;scene a no under a yes;scene b yes under b yes;scene b yes under a no;"
            + "watcher p ear trust 1 walks 9;watcher q child trust 1 walks 9;");
        foot.tell(0, 0, 1);
        sets(foot, "1 in all, 2 and 3 in some", 4, 2, 14);
        foot.tell(1, 1, -1);
        sets(foot, "1 and 2 in all", 2, 6, 14);
        foot.tell(0, 1, -1);
        sets(foot, "one set", 1, 14, 14);
        foot.tell(0, 0, -1);
        sets(foot, "all", 1, 15, 15);
    }

    private static void askLessThanAll() {
        Check.sentence("is the least, if that is less than all");
        FilmFoot foot = Check.foot(FILM);
        foot.show();
        foot.show();
        Check.due("SCENE 2 of a by p", foot.ask(), 0);
        foot.show();
        Check.due("one set", foot.ask(), -1);
        Check.due("eyes read all the same", Check.foot("thing a;scene a yes under a no;watcher q eye trust 1 walks 9;").ask(), -1);
        Check.due("no WATCHERS", Check.foot("thing a;scene a yes under a no;").ask(), -1);
        FilmFoot none = Check.foot(FILM);
        none.tell(1, 0, 1);
        Check.due("no set", none.ask(), -1);
    }

    private static void askNothingTold() {
        Check.sentence("ASK: the WATCHER and THING of which nothing is TOLD");
        FilmFoot foot = Check.foot("thing a;scene a yes under a yes;scene a yes under a no;watcher p ear trust 1 walks 9;watcher q child trust 1 walks 9;");
        Check.due("q, by two and two", foot.ask(), 8);
        foot.tell(1, 0, 1);
        Check.due("q's is TOLD, and p's is so", foot.ask(), -1);
        foot.tell(1, 0, -1);
        Check.due("p, by one and one", foot.ask(), 0);
        FilmFoot told = Check.foot("thing a;thing b;scene a yes under a yes;scene b yes under b yes;watcher p ear trust 1 walks 9;");
        told.tell(0, 0, -1);
        Check.due("b", told.ask(), 1);
    }

    private static void askEqual() {
        Check.sentence("of equal ones the first by WATCHERS, then THINGS");
        FilmFoot foot = Check.foot("thing a;thing b;thing c;scene a yes under c yes;scene b yes under b yes;"
            + "watcher p child trust 1 walks 9;watcher q ear trust 1 walks 9;");
        Check.due("b of p ahead of a of q", foot.ask(), 1);
        foot.tell(0, 1, 1);
        Check.due("a of q", foot.ask(), 8);
        FilmFoot two = Check.foot(AB + "scene b yes under b yes;scene a yes under a yes;watcher p ear trust 1 walks 9;watcher q ear trust 1 walks 9;");
        Check.due("a of p ahead of b", two.ask(), 0);
        two.tell(0, 0, 1);
        Check.due("b of p ahead of b of q", two.ask(), 1);
    }

    private static void askLeast() {
        Check.sentence("by which the greatest number of SETS with the like END is the least");
        FilmFoot foot = Check.foot(AB + "scene a yes under a yes;scene a yes under a yes;scene b no under b no;watcher p ear trust 1 walks 9;");
        Check.due("4 of b, not 6 of a", foot.ask(), 1);
        FilmFoot three = Check.foot("thing c;thing b;thing a;scene a yes under b no;scene a no under b no;scene c yes under b no;scene c yes under b no;"
            + "watcher q eye trust 1 walks 9;watcher p ear trust 1 walks 9;");
        Check.due("no 8, yes 4, nothing 4 of a, not yes 12 of c", three.ask(), 8 + 2);
        three.tell(1, 2, -1);
        Check.due("yes 3 of 4 of c", three.ask(), 8);
    }

    private static void askOfAllSets() {
        Check.sentence("the greatest number of SETS");
        FilmFoot foot = Check.foot("thing a;" + "scene a yes under a no;".repeat(8) + "watcher p ear trust 1 walks 9;");
        Check.due("255 of 256", foot.ask(), 0);
        foot.tell(0, 0, 1);
        Check.due("255, all so", foot.ask(), -1);
        FilmFoot late = Check.foot(AB + "scene a yes under a no;".repeat(7) + "scene b yes under b yes;watcher p ear trust 1 walks 9;");
        Check.due("128 of 256", late.ask(), 1);
        late.show();
        Check.due("64 of 128", late.ask(), 1);
        late.cut(7);
        Check.due("a is as it is, b is cut", late.ask(), -1);
    }

    private static void chanceOdds() {
        Check.sentence("CHANCE, by odds (0 to 10)");
        FilmFoot foot = Check.foot(FILM);
        Check.due("odds 0, as the END is", foot.chance(0, 1, 0), 1000000);
        Check.due("odds 0, no", foot.chance(0, 0, 0), 0);
        Check.due("odds 10, all cut", foot.chance(0, 1, 10), 0);
        Check.due("odds 10, but read", foot.chance(1, 1, 10), 1000000);
        for (int odds = 0; odds <= 10; odds++) {
            Check.due("b is said, odds " + odds, foot.chance(0, 1, odds), (10 - odds) * 100000);
            Check.due("a is said yes, then not no, odds " + odds, foot.chance(0, 0, odds), (10 - odds) * odds * 10000);
        }
        Check.due("odds 11", foot.chance(0, 1, 11), -1);
        Check.due("odds -1", foot.chance(0, 1, -1), -1);
    }

    private static void chanceCut() {
        Check.sentence("in millionths, cut");
        String no = "scene a no under a no;";
        FilmFoot eight = Check.foot("thing a;scene a yes under a no;" + no.repeat(7) + "watcher p ear trust 1 walks 30;");
        Check.due("3906.25", eight.chance(0, 0, 5), 3906);
        Check.due("47829.69", eight.chance(0, 0, 9), 47829);
        Check.due("10.24", eight.chance(0, 0, 2), 10);
        Check.due("0.09", eight.chance(0, 0, 1), 0);
        FilmFoot last = Check.foot("thing a;" + no.repeat(7) + "scene a yes under a no;watcher p ear trust 1 walks 30;");
        Check.due("whole", last.chance(0, 0, 3), 700000);
        FilmFoot any = Check.foot("thing a;" + "scene a yes under a no;".repeat(8) + "watcher p ear trust 1 walks 30;");
        Check.due("999999.99", any.chance(0, 0, 1), 999999);
        Check.due("no SCENES", Check.foot("thing a;watcher p ear trust 1 walks 30;").chance(0, 0, 5), 0);
    }

    private static void chanceNotShown() {
        Check.sentence("CHANCE: each SCENE not SHOWN yet is CUT by odds of ten");
        FilmFoot foot = Check.foot(FILM);
        foot.show();
        Check.due("yes stays if the last one is cut", foot.chance(0, 0, 3), 300000);
        foot.cut(2);
        Check.due("it is cut by hand", foot.chance(0, 0, 3), 1000000);
        foot.undo();
        foot.show();
        foot.show();
        Check.due("all SHOWN, no", foot.chance(0, 0, 3), 0);
        Check.due("all SHOWN, yes", foot.chance(0, 1, 3), 1000000);
        Check.due("nothing was cut", foot.count(6), 0);
    }

    private static int rests(int let, int cuts, int lose, int what) {
        try {
            return new FilmFoot().rests(let, cuts, lose, what);
        } catch (NoSuchElementException none) {
            return -77;
        }
    }

    private static void restsZeroToNine() {
        Check.sentence("each gets so much (0 to 9); one cuts: he gets so much (0 to 9), the other one nothing; both cut: each loses so much (0 to 9)");
        for (int number = -1; number <= 10; number++) {
            boolean fits = number >= 0 && number <= 9;
            Check.due("let " + number, rests(number, 0, 0, -1) > 0, fits);
            Check.due("cuts " + number, rests(0, number, 0, -1) > 0, fits);
            Check.due("lose " + number, rests(0, 0, number, -1) > 0, fits);
        }
        Check.due("let and cuts 9", rests(9, 9, 9, -1), 3);
        Check.due("all 0", rests(0, 0, 0, -1), 4);
    }

    private static void restsEqual() {
        Check.sentence("RESTS: by which neither would get more by the other");
        Check.due("let less than cuts", rests(4, 5, 1, -1), 2);
        Check.due("let as cuts", rests(5, 5, 1, -1), 3);
        Check.due("let more than cuts", rests(6, 5, 1, -1), 1);
        Check.due("lose nothing, let less", rests(4, 5, 0, -1), 3);
        Check.due("lose nothing, let as cuts", rests(5, 5, 0, -1), 4);
        Check.due("lose nothing, let more", rests(6, 5, 0, -1), 2);
    }

    private static void restsLeastFirst() {
        Check.sentence("i: the i-th as 2 * the first one's choice + the other one's (1 cuts; the least first)");
        int[][] want = {{4, 5, 1, 1, 2}, {5, 5, 1, 0, 1, 2}, {6, 5, 1, 0}, {4, 5, 0, 1, 2, 3}, {5, 5, 0, 0, 1, 2, 3}, {6, 5, 0, 0, 3}};
        for (int[] row : want) {
            for (int at = 3; at < row.length; at++) {
                Check.due("rests(" + row[0] + ", " + row[1] + ", " + row[2] + ", " + (at - 3) + ")", rests(row[0], row[1], row[2], at - 3), row[at]);
            }
            Check.due("none behind them", rests(row[0], row[1], row[2], row.length - 3), -77);
        }
    }

    private static void restsNoneSuch() {
        Check.sentence("NoSuchElementException: others, none such");
        Check.due("what -2", rests(5, 5, 5, -2), -77);
        Check.due("what 3 of 3", rests(5, 5, 5, 3), -77);
        Check.due("what 2 of 3", rests(5, 5, 5, 2), 2);
        Check.due("what 4 of 4", rests(0, 0, 0, 4), -77);
        Check.due("what 3 of 4", rests(0, 0, 0, 3), 3);
        Check.due("the greatest of ints", rests(0, 0, 0, Integer.MAX_VALUE), -77);
        Check.due("the least of ints", rests(0, 0, 0, Integer.MIN_VALUE), -77);
        Check.due("let 10, what 0", rests(10, 0, 0, 0), -77);
        Check.due("lose -1, what 0", rests(0, 0, -1, 0), -77);
    }

    private static void yearsSeeds() {
        Check.sentence("YEARS by a SEED (0 to 9999)");
        FilmFoot foot = Check.foot(FILM);
        Check.due("-1", foot.years(-1, 1, 0), -1);
        Check.due("0", foot.years(0, 1, 0), 3);
        Check.due("9999", foot.years(9999, 1, 0), 3);
        Check.due("10000", foot.years(10000, 1, 0), -1);
    }

    private static void yearsSteps() {
        Check.sentence("so many steps (1 to 99)");
        FilmFoot foot = Check.foot("thing a;scene a yes under a yes;watcher p ear trust 1 walks 30;doubts 1;");
        Check.due("0", foot.years(5, 0, 1), -1);
        Check.due("1", foot.years(5, 1, 1), 1);
        Check.due("2: a SHOW, an AGAIN", foot.years(5, 2, 1), 1);
        Check.due("3", foot.years(5, 3, 1), 2);
        Check.due("58", foot.years(5, 58, 0), 1);
        Check.due("59: the 30th SHOW", foot.years(5, 59, 0), 0);
        Check.due("99", foot.years(5, 99, 1), 30);
        Check.due("100", foot.years(5, 100, 1), -1);
        FilmFoot longest = Check.foot("thing a;" + "scene a yes under a yes;".repeat(8) + "watcher p ear trust 1 walks 30;doubts seen = 7;");
        Check.due("99 steps, 11 reissues", longest.years(5, 99, 1), 11);
        Check.due("98 steps", longest.years(5, 98, 1), 11);
        Check.due("97 steps", longest.years(5, 97, 1), 10);
        Check.due("8 steps", longest.years(5, 8, 1), 1);
        Check.due("7 steps", longest.years(5, 7, 1), 0);
    }

    private static void yearsAsAhead() {
        Check.sentence("from now on (all is as ahead then)");
        FilmFoot foot = Check.foot(FILM + "doubts 1;");
        foot.show();
        foot.cut(1);
        foot.tell(0, 0, 1);
        int first = foot.years(77, 99, 2);
        for (int what = 0; what < 3; what++) {
            foot.years(77, 99, what);
        }
        int[] want = {2, 3, 2, 1, 0, 3, 2, 2, 8, 0, 1, 2, 0};
        for (int what = 0; what < want.length; what++) {
            Check.due("count(" + what + ")", foot.count(what), want[what]);
        }
        Check.due("thinks(0, 0)", foot.thinks(0, 0), 1);
        Check.due("written", foot.scene(2, 2), 1);
        Check.due("the same again", foot.years(77, 99, 2), first);
        Check.due("doubt goes on from now", foot.years(1, 2, 1), 2 + 4);
    }

    private static void yearsIfItCanBe() {
        Check.sentence("a SHOW, if it can be, else AGAIN, if it can be; then, if there are WATCHERS");
        Check.due("nothing told, bits", new FilmFoot().years(0, 99, 0), 0);
        Check.due("nothing told, doubt", new FilmFoot().years(0, 99, 1), 0);
        Check.due("nothing told, yes", new FilmFoot().years(0, 99, 2), 0);
        Check.due("no WATCHERS", Check.foot("thing a;scene a yes under a no;").years(3, 99, 0), 0);
        Check.due("no SCENES", Check.foot("thing a;watcher p ear trust 1 walks 1;watcher q ear trust 1 walks 1;").years(3, 99, 0), 3);
        Check.due("no THINGS", Check.foot("watcher p ear trust 1 walks 1;").years(3, 99, 0), 1);
        FilmFoot one = Check.foot("thing a;scene a yes under a no;watcher p ear trust 1 walks 9;");
        Check.due("one WATCHER TALKS to nobody", one.years(3, 99, 2), 1);
    }

    private static void yearsAddedUp() {
        Check.sentence("how many THINK some THING yes, added up over THINGS");
        FilmFoot foot = Check.foot(AB + "scene a yes under a yes;scene b yes under b yes;watcher p ear trust 1 walks 30;watcher q ear trust 1 walks 1;watcher r ear trust 1 walks 30;doubts 1;");
        Check.due("a by three", foot.years(0, 1, 2), 3);
        Check.due("who is in", foot.years(0, 1, 0), 5);
        Check.due("doubt of all, who is out, too", foot.years(0, 1, 1), 3);
    }

    /** How many THINK yes behind a year if only "one" hears yes, only "other" THINKS nothing, and all else are firm in no. */
    private static int yesByTalk(int seed, int one, int other) {
        StringBuilder film = new StringBuilder("thing a;scene a yes under a no;");
        for (int watcher = 0; watcher < 6; watcher++) {
            film.append("watcher ").append((char) ('p' + watcher)).append(watcher == one ? " ear" : watcher == other ? " child" : " eye")
                .append(" trust 4 walks 30;");
        }
        return Check.foot(film.toString()).years(seed, 1, 2);
    }

    /** From seed 1 on these draws come to 16838, 5758, as is well known. */
    private static void yearsDraws() {
        Check.sentence("g becomes (g * 1103515245 + 12345) modulo 2147483648 (g is the SEED at first); it is g / 65536, cut, modulo m");
        int[][] talks = {{1, 2, 4}, {2, 2, 5}, {3, 5, 3}};
        for (int[] talk : talks) {
            for (int pair = 0; pair < 36; pair++) {
                if (pair / 6 != pair % 6) {
                    boolean drawn = pair / 6 == talk[1] && pair % 6 == talk[2];
                    Check.due("TALK of " + pair / 6 + " to " + pair % 6 + " by seed " + talk[0], yesByTalk(talk[0], pair / 6, pair % 6), drawn ? 2 : 1);
                }
            }
        }
        for (int other = 1; other < 6; other++) {
            Check.due("0 to 0 can't be, seed 0", yesByTalk(0, 0, other), 1);
            Check.due("5 to 5 can't be, seed 9999", yesByTalk(9999, 5, other - 1), 1);
        }
    }

    /** One eye, so that both DRAWS of TALK are below 1; what comes was worked out apart from the class. */
    private static void yearsWritings() {
        Check.sentence("a DRAW below 9, if there are SCENES and THINGS: 0: a DRAW below SCENES, below THINGS, below 2 (1: yes): that WRITING, if it can be");
        FilmFoot foot = Check.foot(AB + "scene a yes under a no;".repeat(8) + "watcher p eye trust 1 walks 30;");
        int[][] want = {{0, 8, 0, 0}, {4, 8, 0, 0}, {15, 8, 0, 0}, {20, 8, 0, 1}, {23, 8, 0, 0}, {41, 8, 1, 1}, {58, 8, 2, 0}, {58, 6, 1, 1},
            {0, 99, 8, 1}, {1, 99, 13, 0}, {9999, 99, 0, 0}};
        for (int[] row : want) {
            Check.due("doubt by seed " + row[0] + " in " + row[1], foot.years(row[0], row[1], 1), row[2]);
            Check.due("yes by seed " + row[0] + " in " + row[1], foot.years(row[0], row[1], 2), row[3]);
        }
    }

    private static void marksZeroToThree() {
        Check.sentence("MARKS 0 to 3");
        FilmFoot foot = Check.foot(FILM);
        for (int mark = -1; mark <= 4; mark++) {
            boolean fits = mark >= 0 && mark <= 3;
            Check.due("mark(" + mark + ", false)", foot.mark(mark, false), fits);
            Check.due("mark(" + mark + ", true)", foot.mark(mark, true), fits);
            foot.write(0, 1, mark % 2 == 0);
            foot.cut(mark);
        }
        int[] cuts = {0, 1, 3, 7};
        for (int mark = 3; mark >= 0; mark--) {
            Check.due("back to " + mark, foot.mark(mark, true), true);
            Check.due("cut then", foot.count(6), cuts[mark]);
        }
    }

    private static void marksNothingOnIt() {
        Check.sentence("A MARK is laid (back: gone back to): true; false: none such, nothing is on it (back)");
        FilmFoot foot = Check.foot(FILM);
        foot.mark(2, false);
        for (int mark = -1; mark <= 4; mark++) {
            Check.due("mark(" + mark + ", true)", foot.mark(mark, true), mark == 2);
        }
        foot.show();
        Check.due("nothing is on 1", foot.mark(1, true), false);
        Check.due("nothing was gone back to", foot.count(3) + foot.count(11), 2);
        Check.due("back to it more than once", foot.mark(2, true) && foot.mark(2, true), true);
        foot.show();
        foot.mark(2, false);
        foot.show();
        foot.mark(2, true);
        Check.due("laid anew", foot.count(3), 1);
        FilmFoot empty = new FilmFoot();
        Check.due("on nothing told", empty.mark(0, false) && empty.mark(0, true), true);
    }

    private static void marksHoldAll() {
        Check.sentence("hold all that UNDO brings back, what is TOLD");
        FilmFoot foot = Check.foot(AB + "scene a yes under a no;scene b yes under b no;watcher p ear trust 9 walks 9;watcher q eye trust 1 walks 2;doubts 1;");
        foot.show();
        foot.tell(0, 0, 1);
        foot.mark(0, false);
        foot.talk(1, 0);
        foot.cut(1);
        foot.write(1, 0, true);
        foot.show();
        foot.again();
        foot.tell(0, 0, 0);
        foot.tell(1, 1, 0);
        Check.evening(foot, "again;again;");
        Check.due("q is out", foot.count(5), 1);
        Check.due("back", foot.mark(0, true), true);
        int[] want = {2, 2, 2, 1, 0, 3, 0, 2, 8, 2, 1, 0, 0};
        for (int what = 0; what < want.length; what++) {
            Check.due("count(" + what + ")", foot.count(what), want[what]);
        }
        Check.due("THOUGHT of p", foot.thinks(0, 0), 1);
        Check.due("THOUGHT of q", foot.thinks(1, 1), -1);
        Check.due("doubt of q", foot.watcher(1, 3), 1);
        Check.due("written", foot.scene(1, 2), 1);
        Check.due("TOLD yes of p", foot.sets(0), 2);
        foot.mark(1, false);
        foot.tell(0, 1, 0);
        foot.mark(1, true);
        Check.due("what was TOLD since is gone", foot.count(10), 1);
    }

    private static void marksNothingUndone() {
        Check.sentence("(nothing can be undone when one is gone back to)");
        FilmFoot foot = Check.foot(FILM);
        foot.show();
        Check.due("laid", foot.mark(0, false), true);
        Check.due("it can be undone when one is laid", foot.count(11), 1);
        foot.show();
        foot.mark(0, true);
        Check.due("none when one is gone back to", foot.count(11), 0);
        Check.due("undo()", foot.undo(), false);
        foot.show();
        Check.due("a deed behind it", foot.undo(), true);
        Check.due("no more", foot.undo(), false);
        foot.show();
        Check.due("nothing on it", foot.mark(3, true), false);
        Check.due("it can be undone still", foot.count(11), 1);
    }
}
