/** Promises 8 to 13, 38 and 39: what is done by hand, what is undone, MARKS, and what is counted. */
public final class DeedsTest {
    private static final String FILM = "thing a ; thing b ; scene a yes under a no ; scene b yes under b no ; "
        + "watcher v ear trust 9 walks 9 ; watcher w both trust 2 walks 4 ; watcher u eye trust 4 walks 9 ; ";

    public static void main(String[] args) {
        shows();
        walksOut();
        writes();
        cuts();
        talks();
        again();
        undo();
        sixteen();
        undoNothing();
        marks();
        marksHold();
        counts();
        Check.end();
    }

    private static void counts(FilmFoot foot, String when, int shown, int reissues, int in, int cut, int doubt, int undone) {
        Check.due(when + " shown", foot.count(3), shown);
        Check.due(when + " reissues", foot.count(4), reissues);
        Check.due(when + " in", foot.count(5), in);
        Check.due(when + " cut", foot.count(6), cut);
        Check.due(when + " doubt", foot.count(7), doubt);
        Check.due(when + " undone", foot.count(11), undone);
    }

    private static void shows() {
        FilmFoot foot = Check.foot(FILM);
        Check.due("show 0", foot.show(), 0);
        counts(foot, "after show 0", 1, 0, 7, 0, 2, 1);
        Check.due("show 1", foot.show(), 2);
        counts(foot, "after show 1", 2, 0, 5, 0, 4, 2);
        Check.due("show 2", foot.show(), -1);
        counts(foot, "after show 2", 2, 0, 5, 0, 4, 2);
        Check.due("w's last thought", foot.thinks(1, 1), 1);
        foot.again();
        foot.write(0, 0, true);
        Check.due("show anew", foot.show(), 0);
        Check.due("u took it", foot.thinks(2, 0), 1);
        Check.due("u's doubt", foot.watcher(2, 3), 1);
        Check.due("w's doubt stays", foot.watcher(1, 3), 4);
    }

    /** Doubt as much as walks is enough; he who is out takes nothing more and gets no more doubt. */
    private static void walksOut() {
        FilmFoot foot = Check.foot("thing a ; scene a yes under a no ; scene a no under a no ; watcher p ear trust 1 walks 5 ; "
            + "watcher q ear trust 1 walks 6 ; watcher r ear trust 1 walks 4 ; doubts 5 ;");
        Check.due("p and r walk out", foot.show(), 5);
        Check.due("q walks out", foot.show(), 2);
        Check.due("p's doubt", foot.watcher(0, 3), 5);
        Check.due("q's doubt", foot.watcher(1, 3), 10);
        Check.due("p thinks", foot.thinks(0, 0), 1);
        Check.due("q thinks", foot.thinks(1, 0), 0);
        foot.again();
        Check.due("nobody is in", foot.show(), 0);
        Check.due("p's doubt stays", foot.watcher(0, 3), 5);
    }

    private static void writes() {
        FilmFoot foot = Check.foot(FILM);
        Check.due("write", foot.write(1, 0, true), true);
        Check.due("written thing", foot.scene(1, 2), 0);
        Check.due("written is", foot.scene(1, 3), 1);
        Check.due("write the same", foot.write(1, 0, true), true);
        Check.due("write no", foot.write(1, 0, false), true);
        Check.due("written is no", foot.scene(1, 3), 0);
        Check.due("undone", foot.count(11), 3);
        Check.due("write scene 2", foot.write(2, 0, true), false);
        Check.due("write scene -1", foot.write(-1, 0, true), false);
        Check.due("write thing 2", foot.write(1, 2, true), false);
        Check.due("write thing -1", foot.write(1, -1, true), false);
        Check.due("nothing written", foot.scene(1, 2), 0);
        foot.show();
        Check.due("write one shown", foot.write(0, 1, true), false);
        Check.due("one shown stays", foot.scene(0, 2), 0);
        foot.cut(1);
        Check.due("write a cut one", foot.write(1, 1, true), true);
        Check.due("a cut one's writing", foot.scene(1, 2), 1);
        counts(foot, "after writing", 1, 0, 7, 2, 2, 6);
    }

    private static void cuts() {
        FilmFoot foot = Check.foot(FILM);
        Check.due("cut", foot.cut(1), true);
        Check.due("cut again", foot.cut(1), false);
        Check.due("cut 2", foot.cut(2), false);
        Check.due("cut -1", foot.cut(-1), false);
        Check.due("cut 32", foot.cut(32), false);
        foot.show();
        Check.due("cut one shown", foot.cut(0), false);
        counts(foot, "after cuts", 1, 0, 7, 2, 2, 2);
        foot.show();
        Check.due("an ear took nothing", foot.thinks(0, 1), -1);
        Check.due("one of both took what is written", foot.thinks(1, 1), 0);
        foot.again();
        Check.due("cut behind a reissue", foot.cut(0), true);
        Check.due("cuts stay", foot.cut(1), false);
        Check.due("all cut", foot.count(6), 3);
    }

    private static void talks() {
        FilmFoot foot = Check.foot(FILM);
        Check.due("talk of nothing", foot.talk(0, 1), 0);
        foot.show();
        foot.write(1, 0, true);
        foot.cut(1);
        Check.due("v yes, u no and trust 4", foot.talk(0, 2), 0);
        Check.due("u stays", foot.thinks(2, 0), 0);
        Check.due("u no, v yes and trust 9", foot.talk(2, 0), 1);
        Check.due("v thinks no", foot.thinks(0, 0), 0);
        Check.due("the same again", foot.talk(2, 0), 0);
        Check.due("talk to himself", foot.talk(1, 1), -1);
        Check.due("talk of 3", foot.talk(3, 0), -1);
        Check.due("talk to 3", foot.talk(0, 3), -1);
        Check.due("talk of -1", foot.talk(-1, 0), -1);
        Check.due("talk to -1", foot.talk(0, -1), -1);
        counts(foot, "after talks", 1, 0, 7, 2, 2, 7);
        FilmFoot two = Check.foot("thing a ; thing b ; thing c ; scene a yes under c no ; scene b yes under b no ; scene c yes under c yes ; "
            + "watcher p ear trust 5 walks 9 ; watcher q eye trust 5 walks 9 ; watcher r both trust 9 walks 2 ; watcher s ear trust 4 walks 9 ;");
        two.show();
        Check.due("r walks out", two.show(), 4);
        Check.due("nothing is told of what one thinks nothing of", two.talk(0, 1), 2);
        Check.due("q thinks a", two.thinks(1, 0), 1);
        Check.due("q thinks b", two.thinks(1, 1), 1);
        Check.due("q thinks c still", two.thinks(1, 2), 0);
        Check.due("what was nothing is taken by little trust", two.talk(1, 3), 1);
        Check.due("s thinks c", two.thinks(3, 2), 0);
        Check.due("talk of one who is out", two.talk(2, 0), -1);
        Check.due("talk to one who is out", two.talk(0, 2), -1);
    }

    private static void again() {
        FilmFoot foot = Check.foot(FILM);
        Check.due("again ahead", foot.again(), -1);
        foot.show();
        Check.due("again amid", foot.again(), -1);
        foot.show();
        foot.talk(0, 2);
        Check.due("again", foot.again(), 1);
        counts(foot, "after again", 0, 1, 5, 0, 4, 4);
        Check.due("thought stays", foot.thinks(0, 0), 1);
        foot.write(0, 1, true);
        foot.cut(1);
        foot.show();
        foot.show();
        Check.due("again twice", foot.again(), 2);
        counts(foot, "after again twice", 0, 2, 5, 2, 6, 9);
        Check.due("writing stays", foot.scene(0, 2), 1);
        FilmFoot none = Check.foot("thing a ; watcher v ear trust 1 walks 1 ;");
        Check.due("again without scenes", none.again(), 1);
        Check.due("again without scenes twice", none.again(), 2);
        Check.due("show without scenes", none.show(), -1);
    }

    private static void undo() {
        FilmFoot foot = Check.foot(FILM);
        Check.due("nothing to undo", foot.undo(), false);
        foot.write(1, 0, true);
        foot.cut(1);
        foot.show();
        foot.talk(2, 0);
        foot.show();
        foot.again();
        Check.due("undo again", foot.undo(), true);
        counts(foot, "undone again", 2, 0, 7, 2, 3, 5);
        Check.due("w's thought", foot.thinks(1, 0), 1);
        Check.due("undo show", foot.undo(), true);
        counts(foot, "undone show", 1, 0, 7, 2, 2, 4);
        Check.due("u's thought", foot.thinks(2, 0), 0);
        Check.due("v's thought", foot.thinks(0, 0), 0);
        Check.due("undo talk", foot.undo(), true);
        Check.due("v's elder thought", foot.thinks(0, 0), 1);
        Check.due("undo the first show", foot.undo(), true);
        counts(foot, "undone the first show", 0, 0, 7, 2, 0, 2);
        Check.due("v's thought of nothing", foot.thinks(0, 0), -1);
        Check.due("undo cut", foot.undo(), true);
        counts(foot, "undone cut", 0, 0, 7, 0, 0, 1);
        Check.due("still written", foot.scene(1, 2), 0);
        Check.due("undo write", foot.undo(), true);
        Check.due("as told", foot.scene(1, 2), 1);
        counts(foot, "undone all", 0, 0, 7, 0, 0, 0);
        Check.due("undo nothing more", foot.undo(), false);
        foot.show();
        foot.show();
        foot.undo();
        Check.due("w is in again", foot.count(5), 7);
    }

    private static void sixteen() {
        FilmFoot foot = Check.foot(FILM);
        for (int deed = 0; deed < 20; deed++) {
            Check.due("undone ahead of " + deed, foot.count(11), Math.min(deed, 16));
            foot.write(deed % 2, deed / 2 % 2, deed / 4 % 2 == 1);
        }
        for (int deed = 19; deed >= 4; deed--) {
            Check.due("written by " + deed, foot.scene(deed % 2, 2) + 2 * foot.scene(deed % 2, 3), deed / 2 % 4);
            Check.due("undo of " + deed, foot.undo(), true);
        }
        Check.due("the first ones stay", foot.undo(), false);
        Check.due("written by deed 3", foot.scene(1, 2), 1);
        Check.due("written by deed 2", foot.scene(0, 2), 1);
        foot.cut(0);
        Check.due("undo behind that", foot.undo(), true);
        Check.due("not cut", foot.count(6), 0);
    }

    /** What can't be is nothing to undo, and what only asks is none either. */
    private static void undoNothing() {
        FilmFoot foot = Check.foot(FILM);
        foot.again();
        foot.write(7, 0, true);
        foot.cut(9);
        foot.talk(0, 0);
        foot.tell(0, 0, 1);
        foot.years(3, 9, 0);
        foot.agree();
        foot.forge(0, 0, false);
        foot.spare(0);
        foot.end(0, 0);
        foot.judged(0);
        foot.mark(0, false);
        counts(foot, "after questions", 0, 0, 7, 0, 0, 0);
        foot.show();
        foot.tell(0, 0, 0);
        foot.undo();
        Check.due("what is told is not undone", foot.count(10), 1);
    }

    private static void marks() {
        FilmFoot foot = Check.foot(FILM);
        Check.due("mark 4", foot.mark(4, false), false);
        Check.due("mark -1", foot.mark(-1, false), false);
        Check.due("mark 4 back", foot.mark(4, true), false);
        Check.due("mark -1 back", foot.mark(-1, true), false);
        for (int mark = 0; mark < 4; mark++) {
            Check.due("nothing is on " + mark, foot.mark(mark, true), false);
        }
        for (int mark = 0; mark < 4; mark++) {
            Check.due("mark " + mark, foot.mark(mark, false), true);
            foot.write(0, 1, mark % 2 == 0);
            foot.cut(mark);
        }
        Check.due("back to 1", foot.mark(1, true), true);
        counts(foot, "back to 1", 0, 0, 7, 1, 0, 0);
        Check.due("back to 3", foot.mark(3, true), true);
        counts(foot, "back to 3", 0, 0, 7, 3, 0, 0);
        Check.due("back to 0", foot.mark(0, true), true);
        Check.due("as told", foot.scene(0, 2), 0);
        Check.due("back to 0 again", foot.mark(0, true), true);
        foot.show();
        Check.due("mark anew", foot.mark(0, false), true);
        Check.due("a mark undoes nothing", foot.count(11), 1);
        foot.show();
        Check.due("back to the later one", foot.mark(0, true), true);
        counts(foot, "back to the later one", 1, 0, 7, 0, 2, 0);
        Check.due("undo behind it", foot.undo(), false);
    }

    private static void marksHold() {
        FilmFoot foot = Check.foot(FILM);
        foot.show();
        foot.show();
        foot.again();
        foot.write(0, 1, true);
        foot.cut(1);
        foot.tell(0, 0, 1);
        foot.mark(3, false);
        foot.show();
        foot.show();
        foot.again();
        foot.tell(0, 0, 0);
        foot.tell(2, 1, 0);
        foot.write(0, 0, false);
        Check.due("told", foot.count(10), 2);
        Check.due("no set", foot.sets(0), 0);
        Check.due("back", foot.mark(3, true), true);
        counts(foot, "back", 0, 1, 5, 2, 4, 0);
        Check.due("told then", foot.count(10), 1);
        Check.due("sets then", foot.sets(0), 2);
        Check.due("writing then", foot.scene(0, 2), 1);
        Check.due("thought then", foot.thinks(2, 1), 0);
        Check.due("a film takes marks away", Check.film(foot, FILM), 0);
        Check.due("no mark", foot.mark(3, true), false);
        FilmFoot empty = new FilmFoot();
        empty.mark(1, false);
        empty.again();
        Check.due("back to nothing", empty.mark(1, true), true);
        Check.due("no reissue", empty.count(4), 0);
    }

    private static void counts() {
        FilmFoot foot = Check.foot(FILM + "star 1 ;");
        Check.evening(foot, "show ; again ; show ;");
        foot.show();
        foot.cut(1);
        foot.tell(1, 1, 1);
        foot.tell(1, 0, 1);
        foot.tell(1, 1, -1);
        Check.feed(foot, "thing");
        int[] want = {2, 2, 3, 1, 0, 7, 2, 2, 1, 3, 2, 2, 5};
        for (int what = 0; what < want.length; what++) {
            Check.due("count(" + what + ")", foot.count(what), want[what]);
        }
        Check.due("count(13)", foot.count(13), -1);
        Check.due("count(-1)", foot.count(-1), -1);
        foot.show();
        foot.again();
        Check.due("shown behind again", foot.count(3), 0);
    }
}
