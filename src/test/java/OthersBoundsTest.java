/** Promises 5 to 39: each sentence that tells what is answered to others, on objects full, small, and new. */
public final class OthersBoundsTest {
    private static final int LEAST = Integer.MIN_VALUE;
    private static final int GREATEST = Integer.MAX_VALUE;
    /** Two THINGS, three SCENES, four WATCHERS: what fits one of these does not fit another one. */
    private static final String SMALL = "thing a;thing b;scene a yes under b no;scene b no under a no;scene a yes under a yes;"
        + "watcher p ear trust 1 walks 9;watcher q eye trust 5 walks 9;watcher r both trust 4 walks 9;watcher s child trust 9 walks 9;";

    public static void main(String[] args) {
        sceneOthers();
        sceneCut();
        watcherOthers();
        thinksOthers();
        writeOthers();
        cutOthers();
        talkOthers();
        judgedOthers();
        endOthers();
        firstOthers();
        forgeOthers();
        spareOthers();
        takesOthers();
        takesInOrNot();
        blankOthers();
        mentionsOthers();
        fooledOthers();
        tellOthers();
        setsOthers();
        waversOthers();
        loneOthers();
        chanceOthers();
        whoOthers();
        yearsOthers();
        markOthers();
        countOthers();
        nothingDoneByOthers();
        Check.end();
    }

    /** Numbers just outside 0 .. most - 1, and far off. */
    private static int[] outside(int most) {
        return new int[] {-1, -2, LEAST, LEAST + 1, most, most + 1, most + 8, 64, 1 << 16, GREATEST - 1, GREATEST};
    }

    private static FilmFoot small() {
        return Check.foot(SMALL);
    }

    private static FilmFoot full() {
        StringBuilder film = new StringBuilder();
        for (char name = 'a'; name <= 'f'; name++) {
            film.append("thing ").append(name).append(';');
        }
        film.append("scene f yes under f no;".repeat(8));
        for (char name = 'p'; name <= 'u'; name++) {
            film.append("watcher ").append(name).append(" eye trust 9 walks 30;");
        }
        return Check.foot(film.toString());
    }

    private static void sceneOthers() {
        Check.sentence("5: 1 SHOWN; -2: others");
        FilmFoot foot = small();
        for (int scene : outside(3)) {
            for (int what = 0; what <= 5; what++) {
                Check.due("scene(" + scene + ", " + what + ")", foot.scene(scene, what), -2);
            }
        }
        for (int what : outside(6)) {
            Check.due("scene(2, " + what + ")", foot.scene(2, what), -2);
        }
        foot.show();
        Check.due("scene(0, 5), SHOWN", foot.scene(0, 5), 1);
        Check.due("scene(1, 5), not SHOWN", foot.scene(1, 5), 0);
        Check.due("scene(2, 5)", foot.scene(2, 5), 0);
        Check.due("scene(8, 0) of eight", full().scene(8, 0), -2);
        Check.due("scene(7, 0) of eight", full().scene(7, 0), 5);
    }

    private static void sceneCut() {
        Check.sentence("what 0: the THING it says now (NONE: it is cut), 1: IS (1 yes; NONE: it is cut)");
        FilmFoot foot = small();
        foot.cut(1);
        int[] want = {-1, -1, 0, 0, 1, 0};
        for (int what = 0; what <= 5; what++) {
            Check.due("scene(1, " + what + ")", foot.scene(1, what), want[what]);
        }
        foot.undo();
        Check.due("not cut any more", foot.scene(1, 0), 1);
    }

    private static void watcherOthers() {
        Check.sentence("3: doubt, 4: 1 in; NONE: others");
        FilmFoot foot = small();
        for (int watcher : outside(4)) {
            for (int what = 0; what <= 4; what++) {
                Check.due("watcher(" + watcher + ", " + what + ")", foot.watcher(watcher, what), -1);
            }
        }
        for (int what : outside(5)) {
            Check.due("watcher(3, " + what + ")", foot.watcher(3, what), -1);
        }
        Check.due("watcher(3, 4)", foot.watcher(3, 4), 1);
        Check.due("watcher(6, 0) of six", full().watcher(6, 0), -1);
    }

    private static void thinksOthers() {
        Check.sentence("1 yes, 0 no, NONE: nothing; -2: others");
        FilmFoot foot = small();
        for (int watcher : outside(4)) {
            Check.due("thinks(" + watcher + ", 0)", foot.thinks(watcher, 0), -2);
        }
        for (int thing : outside(2)) {
            Check.due("thinks(0, " + thing + ")", foot.thinks(0, thing), -2);
        }
        Check.due("thinks(3, 1)", foot.thinks(3, 1), -1);
        Check.due("thinks(5, 6) of six", full().thinks(5, 6), -2);
        Check.due("thinks(6, 5) of six", full().thinks(6, 5), -2);
    }

    private static void writeOthers() {
        Check.sentence("WRITE: true; false: others, SHOWN");
        FilmFoot foot = small();
        for (int scene : outside(3)) {
            Check.due("write(" + scene + ", 0, true)", foot.write(scene, 0, true), false);
        }
        for (int thing : outside(2)) {
            Check.due("write(0, " + thing + ", true)", foot.write(0, thing, true), false);
        }
        Check.due("write(2, 1, true)", foot.write(2, 1, true), true);
        Check.due("write(8, 5, true) of eight", full().write(8, 5, true), false);
    }

    private static void cutOthers() {
        Check.sentence("CUT: true; false: others, it can't be");
        FilmFoot foot = small();
        for (int scene : outside(3)) {
            Check.due("cut(" + scene + ")", foot.cut(scene), false);
        }
        Check.due("cut(2)", foot.cut(2), true);
        FilmFoot full = full();
        Check.due("cut(7) of eight", full.cut(7), true);
        Check.due("cut(8) of eight", full.cut(8), false);
        Check.due("cut(32)", full.cut(32), false);
    }

    private static void talkOthers() {
        Check.sentence("NONE: others, the same, it can't be");
        FilmFoot foot = small();
        for (int watcher : outside(4)) {
            Check.due("talk(" + watcher + ", 0)", foot.talk(watcher, 0), -1);
            Check.due("talk(0, " + watcher + ")", foot.talk(0, watcher), -1);
            Check.due("talk(" + watcher + ", " + watcher + ")", foot.talk(watcher, watcher), -1);
        }
        for (int watcher = 0; watcher < 4; watcher++) {
            Check.due("talk to himself", foot.talk(watcher, watcher), -1);
        }
        Check.due("talk(3, 2)", foot.talk(3, 2), 0);
    }

    private static void judgedOthers() {
        Check.sentence("JUDGED, what 0, 1: lines (NONE: none), 2: how many; -2: others");
        FilmFoot foot = small();
        for (int what : outside(3)) {
            Check.due("judged(" + what + ")", foot.judged(what), -2);
        }
        Check.due("no line", foot.judged(0) + foot.judged(1), -2);
        Check.due("how many", foot.judged(2), 4);
    }

    private static void endOthers() {
        Check.sentence("END, likewise; -2: others");
        FilmFoot foot = small();
        for (int watcher : outside(4)) {
            Check.due("end(" + watcher + ", 0)", foot.end(watcher, 0), -2);
        }
        for (int thing : outside(2)) {
            Check.due("end(0, " + thing + ")", foot.end(0, thing), -2);
        }
        Check.due("yes", foot.end(0, 0), 1);
        Check.due("no", foot.end(0, 1), 0);
        Check.due("nothing", foot.end(3, 1), -1);
    }

    private static void firstOthers() {
        Check.sentence("FIRST, what 0: who, 1: the SCENE; NONE: others, nobody");
        FilmFoot foot = Check.foot("thing a;scene a yes under a no;watcher p eye trust 1 walks 1;doubts 1;");
        for (int what : outside(2)) {
            Check.due("first(" + what + ")", foot.first(what), -1);
        }
        Check.due("first(0)", foot.first(0), 0);
        Check.due("first(1)", foot.first(1), 0);
    }

    private static void forgeOthers() {
        Check.sentence("FORGE, as bits; NONE: others, by none");
        FilmFoot foot = small();
        for (int watcher : outside(4)) {
            Check.due("forge(" + watcher + ", 0, true)", foot.forge(watcher, 0, true), -1);
        }
        for (int thing : outside(2)) {
            Check.due("forge(0, " + thing + ", false)", foot.forge(0, thing, false), -1);
        }
        Check.due("forge(1, 1, true)", foot.forge(1, 1, true), 1);
    }

    private static void spareOthers() {
        Check.sentence("SPARE, as bits; NONE: others, he is out, by none");
        FilmFoot foot = small();
        for (int watcher : outside(4)) {
            Check.due("spare(" + watcher + ")", foot.spare(watcher), -1);
        }
        Check.due("spare(3)", foot.spare(3), 0);
    }

    private static void takesOthers() {
        Check.sentence("as 2 * the THING + IS; NONE: nothing; -2: others");
        FilmFoot foot = small();
        for (int watcher : outside(4)) {
            Check.due("takes(" + watcher + ", 0)", foot.takes(watcher, 0), -2);
        }
        for (int scene : outside(3)) {
            Check.due("takes(0, " + scene + ")", foot.takes(0, scene), -2);
        }
        Check.due("takes(3, 2)", foot.takes(3, 2), 1);
        Check.due("takes(3, 1)", foot.takes(3, 1), -1);
        Check.due("takes(0, 1)", foot.takes(0, 1), 2);
    }

    private static void takesInOrNot() {
        Check.sentence("What a WATCHER would take of a SCENE as it is now, in or not");
        FilmFoot foot = Check.foot("thing a;scene a yes under a no;scene a no under a yes;watcher p eye trust 1 walks 1;doubts 1;");
        foot.show();
        Check.due("he is out", foot.watcher(0, 4), 0);
        Check.due("of one SHOWN", foot.takes(0, 0), 0);
        Check.due("of one that comes", foot.takes(0, 1), 1);
        foot.write(1, 0, false);
        Check.due("as it is now", foot.takes(0, 1), 0);
    }

    private static void blankOthers() {
        Check.sentence("THINGS of which a WATCHER THINKS nothing, as bits; NONE: others");
        FilmFoot foot = small();
        for (int watcher : outside(4)) {
            Check.due("blank(" + watcher + ")", foot.blank(watcher), -1);
        }
        Check.due("both", foot.blank(3), 3);
        foot.show();
        Check.due("b", foot.blank(0), 2);
        Check.due("a", foot.blank(1), 1);
        foot.show();
        Check.due("none", foot.blank(0), 0);
        Check.due("six", full().blank(5), 63);
        Check.due("no THINGS", Check.foot("watcher p ear trust 1 walks 1;").blank(0), 0);
    }

    private static void mentionsOthers() {
        Check.sentence("MENTIONS, what 0: said, 1: written; NONE: others");
        FilmFoot foot = small();
        for (int thing : outside(2)) {
            Check.due("mentions(" + thing + ", 0)", foot.mentions(thing, 0), -1);
            Check.due("mentions(" + thing + ", 1)", foot.mentions(thing, 1), -1);
        }
        for (int what : outside(2)) {
            Check.due("mentions(0, " + what + ")", foot.mentions(0, what), -1);
        }
        foot.cut(0);
        Check.due("-1 is no THING, though nothing is said", foot.mentions(-1, 0), -1);
        Check.due("mentions(1, 0)", foot.mentions(1, 0), 2);
    }

    private static void fooledOthers() {
        Check.sentence("FOOLED, as bits; NONE: others");
        FilmFoot foot = small();
        for (int thing : outside(2)) {
            Check.due("fooled(" + thing + ")", foot.fooled(thing), -1);
        }
        Check.due("fooled(1)", foot.fooled(1), 0);
    }

    private static void tellOthers() {
        Check.sentence("TOLD (1 yes, 0 no, NONE nothing): true; false: others");
        FilmFoot foot = small();
        for (int watcher : outside(4)) {
            Check.due("tell(" + watcher + ", 0, 1)", foot.tell(watcher, 0, 1), false);
        }
        for (int thing : outside(2)) {
            Check.due("tell(0, " + thing + ", 1)", foot.tell(0, thing, 1), false);
        }
        for (int is : new int[] {-2, 2, LEAST, GREATEST}) {
            Check.due("tell(0, 0, " + is + ")", foot.tell(0, 0, is), false);
        }
        Check.due("nothing TOLD", foot.count(10), 0);
        for (int is = -1; is <= 1; is++) {
            Check.due("tell(3, 1, " + is + ")", foot.tell(3, 1, is), true);
        }
        Check.due("one TOLD", foot.count(10), 1);
        FilmFoot full = full();
        for (int view = 0; view < 36; view++) {
            Check.due("tell of view " + view, full.tell(view / 6, view % 6, -1), true);
            Check.due("TOLD", full.count(10), view + 1);
        }
    }

    private static void setsOthers() {
        Check.sentence("SETS, what 0: how many, 1: in all, 2: in some (bits); NONE: others");
        FilmFoot foot = small();
        for (int what : outside(3)) {
            Check.due("sets(" + what + ")", foot.sets(what), -1);
        }
        Check.due("sets(2)", foot.sets(2), 7);
    }

    private static void waversOthers() {
        Check.sentence("WAVERS; NONE: others");
        FilmFoot foot = small();
        for (int watcher : outside(4)) {
            Check.due("wavers(" + watcher + ")", foot.wavers(watcher), -1);
        }
        Check.due("wavers(3)", foot.wavers(3), 0);
    }

    private static void loneOthers() {
        Check.sentence("LONE, as bits; NONE: others");
        FilmFoot foot = small();
        for (int watcher : outside(4)) {
            Check.due("lone(" + watcher + ")", foot.lone(watcher), -1);
        }
        Check.due("lone(3)", foot.lone(3), 0);
    }

    private static void chanceOthers() {
        Check.sentence("CHANCE, by odds (0 to 10); NONE: others");
        FilmFoot foot = small();
        for (int watcher : outside(4)) {
            Check.due("chance(" + watcher + ", 0, 5)", foot.chance(watcher, 0, 5), -1);
        }
        for (int thing : outside(2)) {
            Check.due("chance(0, " + thing + ", 5)", foot.chance(0, thing, 5), -1);
        }
        for (int odds : outside(11)) {
            Check.due("chance(0, 0, " + odds + ")", foot.chance(0, 0, odds), -1);
        }
        Check.due("chance(0, 0, 10)", foot.chance(0, 0, 10), 0);
    }

    private static void whoOthers() {
        Check.sentence("WATCHERS in who THINK a THING so (1 yes, 0 no, NONE nothing), as bits; NONE: others");
        FilmFoot foot = small();
        for (int thing : outside(2)) {
            Check.due("who(" + thing + ", -1)", foot.who(thing, -1), -1);
        }
        for (int is : new int[] {-2, 2, LEAST, GREATEST}) {
            Check.due("who(0, " + is + ")", foot.who(0, is), -1);
        }
        Check.due("who(1, -1)", foot.who(1, -1), 15);
        Check.due("who(1, 0)", foot.who(1, 0), 0);
        Check.due("who(1, 1)", foot.who(1, 1), 0);
    }

    private static void yearsOthers() {
        Check.sentence("what 0: bits, 1: doubt, 2: how many; NONE: others");
        FilmFoot foot = small();
        for (int what : outside(3)) {
            Check.due("years(1, 1, " + what + ")", foot.years(1, 1, what), -1);
        }
        for (int seed : outside(10000)) {
            if (seed < 0 || seed > 9999) {
                Check.due("years(" + seed + ", 1, 0)", foot.years(seed, 1, 0), -1);
            }
        }
        for (int steps : new int[] {0, -1, LEAST, 100, 101, GREATEST}) {
            Check.due("years(1, " + steps + ", 0)", foot.years(1, steps, 0), -1);
        }
        Check.due("years(1, 1, 0)", foot.years(1, 1, 0), 15);
    }

    private static void markOthers() {
        Check.sentence("A MARK is laid (back: gone back to): true; false: none such");
        FilmFoot foot = small();
        for (int mark : outside(4)) {
            Check.due("mark(" + mark + ", false)", foot.mark(mark, false), false);
            Check.due("mark(" + mark + ", true)", foot.mark(mark, true), false);
        }
        Check.due("mark(3, false)", foot.mark(3, false), true);
    }

    private static void countOthers() {
        Check.sentence("12: signs on the TAPE. NONE for another what");
        for (int what : outside(13)) {
            Check.due("count(" + what + ")", small().count(what), -1);
        }
        Check.due("count(12)", small().count(12), 0);
        Check.due("count(0) of six", full().count(0), 6);
        Check.due("count(1) of eight", full().count(1), 8);
        Check.due("count(2) of six", full().count(2), 6);
    }

    /** What is refused changes nothing. */
    private static void nothingDoneByOthers() {
        Check.sentence("NONE: others, the same, it can't be");
        FilmFoot foot = small();
        foot.show();
        foot.cut(2);
        int[] counts = new int[13];
        for (int what = 0; what < counts.length; what++) {
            counts[what] = foot.count(what);
        }
        foot.write(0, 1, true);
        foot.write(1, 2, true);
        foot.write(3, 1, true);
        foot.cut(0);
        foot.cut(2);
        foot.cut(-1);
        foot.talk(0, 0);
        foot.talk(0, 4);
        foot.again();
        foot.tell(4, 0, 1);
        foot.mark(4, false);
        foot.mark(0, true);
        for (int what = 0; what < counts.length; what++) {
            Check.due("count(" + what + ")", foot.count(what), counts[what]);
        }
        Check.due("written", foot.scene(0, 2) + 10 * foot.scene(1, 2) + 100 * foot.scene(2, 2), 1);
    }
}
