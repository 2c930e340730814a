/** Promises 26 to 28: what is TOLD, the SETS by which it is so, and what to ASK. */
public final class ToldTest {
    private static final String FILM = "thing a ; thing b ; scene a yes under a no ; scene b yes under b no ; scene a no under b yes ; "
        + "watcher v ear trust 1 walks 9 ; watcher u eye trust 1 walks 9 ; watcher t child trust 1 walks 9 ; ";

    public static void main(String[] args) {
        tell();
        sets();
        setsShown();
        noSet();
        ask();
        askTold();
        askNone();
        Check.end();
    }

    private static void sets(FilmFoot foot, String when, int count, int all, int some) {
        Check.due(when + " sets(0)", foot.sets(0), count);
        Check.due(when + " sets(1)", foot.sets(1), all);
        Check.due(when + " sets(2)", foot.sets(2), some);
    }

    private static void tell() {
        FilmFoot foot = Check.foot(FILM);
        Check.due("tell yes", foot.tell(0, 0, 1), true);
        Check.due("tell no", foot.tell(0, 1, 0), true);
        Check.due("tell nothing", foot.tell(2, 1, -1), true);
        Check.due("told", foot.count(10), 3);
        Check.due("tell anew", foot.tell(0, 0, 0), true);
        Check.due("told still", foot.count(10), 3);
        Check.due("tell(3, 0)", foot.tell(3, 0, 1), false);
        Check.due("tell(-1, 0)", foot.tell(-1, 0, 1), false);
        Check.due("tell(0, 2)", foot.tell(0, 2, 1), false);
        Check.due("tell(0, -1)", foot.tell(0, -1, 1), false);
        Check.due("tell is 2", foot.tell(0, 0, 2), false);
        Check.due("tell is -2", foot.tell(0, 0, -2), false);
        Check.due("told after all", foot.count(10), 3);
        foot.show();
        Check.due("told stays", foot.count(10), 3);
        foot.undo();
        Check.due("told is not undone", foot.count(10), 3);
    }

    private static void sets() {
        FilmFoot foot = Check.foot(FILM);
        sets(foot, "nothing told", 8, 0, 7);
        Check.due("sets(3)", foot.sets(3), -1);
        Check.due("sets(-1)", foot.sets(-1), -1);
        foot.tell(0, 0, 1);
        sets(foot, "a yes", 2, 4, 6);
        foot.tell(0, 1, -1);
        sets(foot, "a yes, b nothing", 1, 6, 6);
        foot.tell(0, 1, 1);
        sets(foot, "a yes, b yes", 1, 4, 4);
        foot.tell(0, 0, 0);
        sets(foot, "a no, b yes", 2, 0, 1);
        foot.tell(0, 0, -1);
        sets(foot, "a nothing, b yes", 1, 5, 5);
        foot.tell(0, 1, 0);
        sets(foot, "b no", 0, -1, -1);
        Check.due("nothing was cut", foot.count(6), 0);
    }

    private static void setsShown() {
        FilmFoot foot = Check.foot(FILM);
        foot.show();
        foot.cut(1);
        sets(foot, "one shown, one cut", 2, 0, 4);
        foot.tell(0, 0, 1);
        sets(foot, "a yes", 1, 4, 4);
        foot.tell(0, 0, 0);
        sets(foot, "a no", 1, 0, 0);
        foot.show();
        foot.show();
        sets(foot, "all shown", 1, 0, 0);
        foot.tell(0, 0, 1);
        sets(foot, "all shown, and another way", 0, -1, -1);
        sets(new FilmFoot(), "no film", 1, 0, 0);
    }

    private static void noSet() {
        FilmFoot foot = Check.foot(FILM);
        foot.tell(1, 0, 1);
        sets(foot, "an eye never reads yes", 0, -1, -1);
        Check.due("nothing to ask", foot.ask(), -1);
        foot.tell(1, 0, 0);
        sets(foot, "an eye reads no", 8, 0, 7);
    }

    /** Of a v ends yes by 2 sets, no by 4, nothing by 2; of b yes by 4, nothing by 4; u and t end the same by all. */
    private static void ask() {
        FilmFoot foot = Check.foot(FILM);
        Check.due("v of a", foot.ask(), 0);
        foot.tell(0, 0, 0);
        Check.due("v of b, as a is told", foot.ask(), 1);
        foot.tell(0, 1, 1);
        Check.due("nothing parts the two left", foot.ask(), -1);
        FilmFoot best = Check.foot("thing a ; thing b ; scene a yes under b yes ; scene a yes under b yes ; scene b no under b no ; "
            + "watcher v ear trust 1 walks 9 ; watcher u child trust 1 walks 9 ; watcher t ear trust 9 walks 9 ;");
        Check.due("b parts better than a", best.ask(), 1);
        best.tell(0, 1, 0);
        Check.due("then a", best.ask(), 0);
        best.tell(0, 0, 1);
        Check.due("then none", best.ask(), -1);
    }

    /** What is TOLD of is not asked, though it would part the SETS. */
    private static void askTold() {
        FilmFoot foot = Check.foot("thing a ; thing b ; scene b yes under b yes ; scene a yes under a no ; watcher u eye trust 1 walks 9 ; "
            + "watcher v ear trust 1 walks 9 ; watcher t child trust 1 walks 9 ; watcher s ear trust 1 walks 9 ;");
        Check.due("v of a", foot.ask(), 8);
        foot.tell(1, 0, 1);
        Check.due("v of b", foot.ask(), 9);
        foot.tell(0, 0, 0);
        Check.due("v of b still", foot.ask(), 9);
        foot.show();
        Check.due("nothing left", foot.ask(), -1);
        foot.undo();
        foot.tell(1, 0, -1);
        Check.due("behind another tale", foot.ask(), 9);
        foot.cut(0);
        Check.due("b is cut", foot.ask(), -1);
    }

    private static void askNone() {
        Check.due("no film", new FilmFoot().ask(), -1);
        Check.due("no scenes", Check.foot("thing a ; watcher v ear trust 1 walks 1 ;").ask(), -1);
        FilmFoot foot = Check.foot("thing a ; thing b ; scene a yes under a yes ; scene b yes under a yes ; watcher u ear trust 1 walks 9 ; watcher p both trust 1 walks 2 ; doubts clash + 1 ;");
        Check.due("sets", foot.sets(0), 4);
        Check.due("u of a", foot.ask(), 0);
        foot.show();
        Check.due("u of b", foot.ask(), 1);
        foot.tell(0, 1, 1);
        Check.due("p of b tells no more", foot.ask(), -1);
    }
}
