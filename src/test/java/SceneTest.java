/** Promises 5, 6, 7, 19, 20, 21, 29, 32 and 35: what SCENES say, and what one takes and THINKS. */
public final class SceneTest {
    private static final String THINGS = "thing a ; thing b ; thing c ; ";

    public static void main(String[] args) {
        scenes();
        star();
        watchers();
        takes();
        takesOfCut();
        thoughts();
        mentions();
        clashes();
        moves();
        Check.end();
    }

    private static void scene(FilmFoot foot, int scene, int... want) {
        for (int what = 0; what < want.length; what++) {
            Check.due("scene(" + scene + ", " + what + ")", foot.scene(scene, what), want[what]);
        }
    }

    private static void scenes() {
        FilmFoot foot = Check.foot(THINGS + "scene a yes under b no ; scene c no under c yes ;");
        scene(foot, 0, 0, 1, 1, 0, 0, 0, -2);
        scene(foot, 1, 2, 0, 2, 1, 0, 0, -2);
        Check.due("scene(2, 0)", foot.scene(2, 0), -2);
        Check.due("scene(-1, 0)", foot.scene(-1, 0), -2);
        Check.due("scene(0, -1)", foot.scene(0, -1), -2);
        Check.due("scene(max, 2)", foot.scene(Integer.MAX_VALUE, 2), -2);
        foot.cut(1);
        scene(foot, 1, -1, -1, 2, 1, 1, 0);
        foot.show();
        scene(foot, 0, 0, 1, 1, 0, 0, 1);
        foot.write(1, 0, false);
        foot.show();
        scene(foot, 1, -1, -1, 0, 0, 1, 1);
        foot.again();
        scene(foot, 0, 0, 1, 1, 0, 0, 0);
        scene(foot, 1, -1, -1, 0, 0, 1, 0);
    }

    private static void star() {
        FilmFoot foot = Check.foot(THINGS + "scene a yes under a no ; scene a yes under b no ; scene a yes under a yes ; "
            + "scene b yes under c no ; scene c yes under c yes ; star 1 ;");
        scene(foot, 0, 0, 1);
        scene(foot, 1, 0, 0);
        scene(foot, 2, 0, 0);
        scene(foot, 3, 1, 0);
        scene(foot, 4, 2, 0);
        foot.write(2, 1, true);
        scene(foot, 3, 1, 1);
        foot.cut(2);
        scene(foot, 3, 1, 1);
        scene(foot, 2, -1, -1);
        foot.write(3, 1, true);
        scene(foot, 4, 2, 1);
        foot.write(0, 0, true);
        scene(foot, 1, 0, 1);
        FilmFoot early = Check.foot(THINGS + "scene a yes under a no ; scene a yes under b no ; star 0 ;");
        scene(early, 0, 0, 1);
        scene(early, 1, 0, 0);
        FilmFoot late = Check.foot(THINGS + "scene a yes under a no ; scene a yes under b no ; star 2 ;");
        scene(late, 1, 0, 1);
    }

    private static void watchers() {
        FilmFoot foot = Check.foot(THINGS + "scene a yes under a no ; watcher p ear trust 0 walks 30 ; watcher q eye trust 9 walks 29 ; "
            + "watcher r both trust 4 walks 2 ; watcher s child trust 5 walks 1 ;");
        int[][] want = {{0, 0, 30, 0, 1, -1}, {1, 9, 29, 0, 1, -1}, {2, 4, 2, 0, 1, -1}, {3, 5, 1, 0, 1, -1}};
        for (int watcher = 0; watcher < 4; watcher++) {
            for (int what = 0; what < 6; what++) {
                Check.due("watcher(" + watcher + ", " + what + ")", foot.watcher(watcher, what), want[watcher][what]);
            }
        }
        Check.due("watcher(4, 0)", foot.watcher(4, 0), -1);
        Check.due("watcher(-1, 0)", foot.watcher(-1, 0), -1);
        Check.due("watcher(0, -1)", foot.watcher(0, -1), -1);
        Check.due("r walks out", foot.show(), 4);
        Check.due("doubt of r", foot.watcher(2, 3), 2);
        Check.due("r in", foot.watcher(2, 4), 0);
        Check.due("q in", foot.watcher(1, 4), 1);
    }

    /** Each KIND, trust 4 and 5, of what is said and what is written, alike and not. */
    private static void takes() {
        FilmFoot foot = Check.foot(THINGS + "scene a yes under b no ; scene c no under c no ; scene c no under c yes ; "
            + "watcher p ear trust 9 walks 30 ; watcher q eye trust 0 walks 30 ; watcher r both trust 4 walks 30 ; "
            + "watcher s both trust 5 walks 30 ; watcher t child trust 0 walks 30 ;");
        int[][] want = {{1, 4, 4}, {2, 4, 5}, {1, 4, 4}, {2, 4, 5}, {-1, 4, -1}};
        for (int watcher = 0; watcher < 5; watcher++) {
            for (int scene = 0; scene < 3; scene++) {
                Check.due("takes(" + watcher + ", " + scene + ")", foot.takes(watcher, scene), want[watcher][scene]);
            }
        }
        Check.due("takes(5, 0)", foot.takes(5, 0), -2);
        Check.due("takes(-1, 0)", foot.takes(-1, 0), -2);
        Check.due("takes(0, 3)", foot.takes(0, 3), -2);
        Check.due("takes(0, -1)", foot.takes(0, -1), -2);
        foot.write(0, 0, true);
        Check.due("takes anew", foot.takes(4, 0), 1);
        foot.show();
        Check.due("takes of one shown", foot.takes(1, 0), 1);
        for (int watcher = 0; watcher < 5; watcher++) {
            Check.due("thinks of a by " + watcher, foot.thinks(watcher, 0), 1);
        }
        foot.show();
        foot.show();
        int[] thought = {0, 1, 0, 1, 0};
        for (int watcher = 0; watcher < 5; watcher++) {
            Check.due("thinks of c by " + watcher, foot.thinks(watcher, 2), thought[watcher]);
        }
    }

    private static void takesOfCut() {
        FilmFoot foot = Check.foot(THINGS + "scene a yes under a yes ; watcher p ear trust 9 walks 30 ; watcher q eye trust 0 walks 30 ; "
            + "watcher r both trust 4 walks 30 ; watcher s both trust 5 walks 30 ; watcher t child trust 0 walks 1 ; doubts seen + 1 ;");
        foot.cut(0);
        int[] want = {-1, 1, 1, 1, -1};
        for (int watcher = 0; watcher < 5; watcher++) {
            Check.due("takes of a cut one by " + watcher, foot.takes(watcher, 0), want[watcher]);
        }
        Check.due("t walks out", foot.show(), 16);
        int[] thought = {-1, 1, 1, 1, -1};
        for (int watcher = 0; watcher < 5; watcher++) {
            Check.due("thinks by a cut one of " + watcher, foot.thinks(watcher, 0), thought[watcher]);
        }
        Check.due("takes of one who is out", foot.takes(4, 0), -1);
        foot.again();
        Check.due("a star's own thing", foot.takes(1, 0), 1);
    }

    private static FilmFoot thinking() {
        FilmFoot foot = Check.foot(THINGS + "scene a yes under a no ; scene b no under b no ; watcher p ear trust 1 walks 30 ; "
            + "watcher q eye trust 1 walks 30 ; watcher r child trust 1 walks 30 ; watcher s both trust 6 walks 3 ;");
        foot.show();
        foot.show();
        return foot;
    }

    private static void thoughts() {
        FilmFoot foot = thinking();
        int[][] want = {{1, 0, -1}, {0, 0, -1}, {-1, 0, -1}, {0, 0, -1}};
        int[] blank = {4, 4, 5, 4};
        for (int watcher = 0; watcher < 4; watcher++) {
            for (int thing = 0; thing < 3; thing++) {
                Check.due("thinks(" + watcher + ", " + thing + ")", foot.thinks(watcher, thing), want[watcher][thing]);
            }
            Check.due("blank(" + watcher + ")", foot.blank(watcher), blank[watcher]);
        }
        Check.due("thinks(4, 0)", foot.thinks(4, 0), -2);
        Check.due("thinks(-1, 0)", foot.thinks(-1, 0), -2);
        Check.due("thinks(0, 3)", foot.thinks(0, 3), -2);
        Check.due("thinks(0, -1)", foot.thinks(0, -1), -2);
        Check.due("blank(4)", foot.blank(4), -1);
        Check.due("blank(-1)", foot.blank(-1), -1);
        Check.due("who(0, 1)", foot.who(0, 1), 1);
        Check.due("who(0, 0)", foot.who(0, 0), 10);
        Check.due("who(0, -1)", foot.who(0, -1), 4);
        Check.due("who(1, 0)", foot.who(1, 0), 15);
        Check.due("who(1, 1)", foot.who(1, 1), 0);
        Check.due("who(2, -1)", foot.who(2, -1), 15);
        Check.due("who(3, 1)", foot.who(3, 1), -1);
        Check.due("who(-1, 1)", foot.who(-1, 1), -1);
        Check.due("who(0, 2)", foot.who(0, 2), -1);
        Check.due("who(0, -2)", foot.who(0, -2), -1);
        foot.again();
        Check.due("s walks out", foot.show(), 8);
        Check.due("s thinks still", foot.thinks(3, 0), 0);
        Check.due("who is in thinks so", foot.who(0, 0), 2);
        Check.due("who is in thinks nothing", foot.who(2, -1), 7);
        Check.due("blank of one who is out", foot.blank(3), 4);
    }

    private static void mentions() {
        FilmFoot foot = Check.foot(THINGS + "scene a yes under b no ; scene b yes under b yes ; scene a no under c no ;");
        Check.due("mentions(0, 0)", foot.mentions(0, 0), 5);
        Check.due("mentions(1, 0)", foot.mentions(1, 0), 2);
        Check.due("mentions(2, 0)", foot.mentions(2, 0), 0);
        Check.due("mentions(0, 1)", foot.mentions(0, 1), 0);
        Check.due("mentions(1, 1)", foot.mentions(1, 1), 3);
        Check.due("mentions(2, 1)", foot.mentions(2, 1), 4);
        Check.due("mentions(3, 0)", foot.mentions(3, 0), -1);
        Check.due("mentions(-1, 0)", foot.mentions(-1, 0), -1);
        Check.due("mentions(0, 2)", foot.mentions(0, 2), -1);
        Check.due("mentions(0, -1)", foot.mentions(0, -1), -1);
        foot.show();
        foot.cut(2);
        foot.write(1, 0, true);
        Check.due("mentions(0, 0) cut", foot.mentions(0, 0), 1);
        Check.due("mentions(2, 1) cut", foot.mentions(2, 1), 4);
        Check.due("mentions(0, 1) anew", foot.mentions(0, 1), 2);
        Check.due("mentions(1, 1) anew", foot.mentions(1, 1), 1);
    }

    private static void clashes() {
        FilmFoot foot = Check.foot(THINGS + "scene a yes under a no ; scene b yes under b yes ; scene a no under c yes ; "
            + "scene a yes under a no ; scene a no under a yes ; star 3 ;");
        Check.due("clashes", foot.clashes(), 17);
        foot.cut(0);
        Check.due("clashes but a cut one", foot.clashes(), 16);
        foot.write(1, 1, false);
        Check.due("clashes anew", foot.clashes(), 18);
        foot.write(0, 0, true);
        Check.due("clashes behind the star", foot.clashes(), 26);
        foot.show();
        foot.show();
        Check.due("clashes when shown", foot.clashes(), 26);
    }

    private static void moves() {
        FilmFoot foot = Check.foot(THINGS + "scene a yes under a no ; scene b yes under b no ; scene b no under c no ; watcher p ear trust 1 walks 1 ;");
        Check.due("moves", foot.moves(), 5);
        foot.write(2, 0, true);
        Check.due("moves anew", foot.moves(), 0);
        foot.cut(0);
        Check.due("moves by a cut one", foot.moves(), 1);
        foot.cut(2);
        Check.due("moves by two", foot.moves(), 3);
        foot.show();
        foot.show();
        foot.show();
        Check.due("moves when shown", foot.moves(), 3);
        FilmFoot star = Check.foot(THINGS + "scene a yes under a no ; scene a yes under b yes ; star 1 ;");
        Check.due("moves by a star", star.moves(), 2);
        Check.due("moves without scenes", Check.foot(THINGS).moves(), 0);
    }
}
