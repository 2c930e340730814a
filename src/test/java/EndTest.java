/** Promises 15 to 18, 30 and 34: what comes at the END, and what would change it. */
public final class EndTest {
    private static final String THINGS = "thing a ; thing b ; ";

    public static void main(String[] args) {
        end();
        first();
        firstTies();
        forge();
        forgeFewest();
        forgeWalks();
        spare();
        spareFewest();
        wavers();
        chance();
        chanceParts();
        Check.end();
    }

    private static final String FILM = THINGS + "scene a yes under a no ; scene b no under a no ; scene a no under b yes ; "
        + "watcher v ear trust 5 walks 9 ; watcher w both trust 4 walks 3 ; watcher u child trust 1 walks 9 ; watcher t eye trust 1 walks 9 ; ";

    private static void ends(FilmFoot foot, int watcher, int a, int b) {
        Check.due("end(" + watcher + ", 0)", foot.end(watcher, 0), a);
        Check.due("end(" + watcher + ", 1)", foot.end(watcher, 1), b);
    }

    private static void end() {
        FilmFoot foot = Check.foot(FILM);
        ends(foot, 0, 0, 0);
        ends(foot, 1, 0, 0);
        ends(foot, 2, -1, -1);
        ends(foot, 3, 0, 1);
        Check.due("end(4, 0)", foot.end(4, 0), -2);
        Check.due("end(-1, 0)", foot.end(-1, 0), -2);
        Check.due("end(0, 2)", foot.end(0, 2), -2);
        Check.due("end(0, -1)", foot.end(0, -1), -2);
        Check.due("nothing was shown", foot.count(3), 0);
        foot.show();
        foot.cut(2);
        ends(foot, 0, 1, 0);
        foot.write(1, 1, false);
        ends(foot, 2, -1, 0);
        foot.show();
        foot.show();
        ends(foot, 0, 1, 0);
        Check.due("end of all shown", foot.end(3, 1), 1);
        FilmFoot out = Check.foot(THINGS + "scene a yes under a no ; scene a no under a no ; watcher w both trust 1 walks 2 ;");
        Check.due("one walks out ahead of the end", out.end(0, 0), 1);
    }

    /** w gets 2 by the clash of scene 0, and 1 by scene 2, which is odd to him. */
    private static void first() {
        FilmFoot foot = Check.foot(FILM);
        Check.due("first(0)", foot.first(0), 1);
        Check.due("first(1)", foot.first(1), 2);
        Check.due("first(2)", foot.first(2), -1);
        Check.due("first(-1)", foot.first(-1), -1);
        Check.due("all are in", foot.count(5), 15);
        foot.cut(2);
        Check.due("w reads what is odd, too", foot.first(1), 2);
        foot.write(2, 1, false);
        Check.due("nobody first(0)", foot.first(0), -1);
        Check.due("nobody first(1)", foot.first(1), -1);
        foot.undo();
        foot.undo();
        foot.show();
        foot.show();
        Check.due("then first(1)", foot.first(1), 2);
        foot.show();
        Check.due("gone first(0)", foot.first(0), -1);
    }

    private static void firstTies() {
        FilmFoot foot = Check.foot(THINGS + "scene a yes under a no ; scene b yes under b no ; watcher p both trust 1 walks 4 ; "
            + "watcher q both trust 7 walks 2 ; watcher r both trust 1 walks 2 ; ");
        Check.due("tie first(0)", foot.first(0), 1);
        Check.due("tie first(1)", foot.first(1), 0);
        foot.show();
        Check.due("later first(0)", foot.first(0), 0);
        Check.due("later first(1)", foot.first(1), 1);
    }

    private static void forge() {
        FilmFoot foot = Check.foot(FILM);
        Check.due("an eye, a yes", foot.forge(3, 0, true), 2);
        Check.due("an eye, a no as it is", foot.forge(3, 0, false), 0);
        Check.due("an eye, b no", foot.forge(3, 1, false), 4);
        Check.due("an ear, a yes", foot.forge(0, 0, true), -1);
        Check.due("an ear, a no", foot.forge(0, 0, false), 0);
        Check.due("a child, a no", foot.forge(2, 0, false), 4);
        Check.due("a child, b no", foot.forge(2, 1, false), 2);
        Check.due("a child, b yes", foot.forge(2, 1, true), -1);
        Check.due("forge(4, 0)", foot.forge(4, 0, true), -1);
        Check.due("forge(-1, 0)", foot.forge(-1, 0, true), -1);
        Check.due("forge(0, 2)", foot.forge(0, 2, true), -1);
        Check.due("forge(0, -1)", foot.forge(0, -1, true), -1);
        Check.due("nothing is written", foot.scene(1, 3), 0);
        foot.show();
        foot.show();
        Check.due("what was shown is not written anew", foot.forge(3, 0, true), 4);
        foot.cut(2);
        Check.due("a cut one is written anew", foot.forge(3, 1, false), 4);
        Check.due("a child takes nothing of a cut one", foot.forge(2, 0, false), -1);
        foot.show();
        Check.due("all shown", foot.forge(3, 0, true), -1);
        Check.due("all shown and so", foot.forge(3, 0, false), 0);
    }

    /** One who would walk out by the first of two is brought past it only by writing both. */
    private static void forgeFewest() {
        FilmFoot foot = Check.foot(THINGS + "scene a yes under a yes ; scene a yes under a yes ; scene b yes under b yes ; scene b yes under b yes ; "
            + "watcher v eye trust 1 walks 30 ; ");
        Check.due("the last of a", foot.forge(0, 0, false), 2);
        foot.write(1, 1, false);
        Check.due("the first of a, else others", foot.forge(0, 0, false), 1);
        FilmFoot equal = Check.foot(THINGS + "scene b yes under b yes ; scene b yes under b yes ; watcher v eye trust 1 walks 9 ;");
        Check.due("the least of equal ones", equal.forge(0, 0, true), 1);
        FilmFoot three = Check.foot(THINGS + "scene a no under b no ; scene a yes under a no ; scene a no under a no ; "
            + "scene b yes under b yes ; watcher v ear trust 1 walks 9 ; star 1 ;");
        Check.due("the star is told what to say", three.forge(0, 0, true), 2);
        FilmFoot two = Check.foot(THINGS + "scene a no under a no ; scene a no under a no ; scene b yes under b yes ; "
            + "watcher v eye trust 1 walks 9 ; watcher u ear trust 1 walks 3 ; doubts 3 * odd ; star 1 ;");
        Check.due("both, so that nobody is told two things", two.forge(0, 0, true), 2);
    }

    /** p would not walk out without the forging; q would all the same. */
    private static void forgeWalks() {
        String film = THINGS + "scene a yes under a yes ; scene a yes under a yes ; watcher v eye trust 1 walks 9 ; ";
        FilmFoot foot = Check.foot(film + "watcher p both trust 1 walks 2 ;");
        Check.due("p would walk out", foot.forge(0, 0, false), -1);
        Check.due("p more", Check.foot(film + "watcher p both trust 1 walks 3 ;").forge(0, 0, false), 2);
        FilmFoot other = Check.foot(film + "watcher p both trust 1 walks 2 ; doubts 1 ;");
        Check.due("he walks out without, too", other.forge(0, 0, false), 2);
        FilmFoot gone = Check.foot(film + "watcher p both trust 1 walks 1 ; doubts 1 - seen + clash ;");
        gone.show();
        Check.due("he is out", gone.count(5), 1);
        Check.due("one who is out does not matter", gone.forge(0, 0, false), 2);
        FilmFoot more = Check.foot(THINGS + "scene a yes under b no ; scene a yes under a yes ; scene b no under b no ; "
            + "watcher v eye trust 1 walks 9 ; watcher p both trust 1 walks 2 ;");
        Check.due("where nobody minds", more.forge(0, 0, false), 4);
        FilmFoot self = Check.foot(THINGS + "scene a yes under a yes ; scene b yes under b yes ; watcher v eye trust 9 walks 1 ;");
        Check.due("he himself would walk out", self.forge(0, 0, false), 1);
        self.show();
        Check.due("then by none", self.forge(0, 0, false), -1);
        Check.due("and he thinks so", self.forge(0, 0, true), 0);
    }

    private static void spare() {
        FilmFoot foot = Check.foot(FILM);
        Check.due("w, the clash cut", foot.spare(1), 1);
        Check.due("v is in", foot.spare(0), 0);
        Check.due("spare(4)", foot.spare(4), -1);
        Check.due("spare(-1)", foot.spare(-1), -1);
        foot.show();
        Check.due("w, by none", foot.spare(1), -1);
        foot.write(2, 1, false);
        Check.due("w, the odd one cut", foot.spare(1), 4);
        foot.show();
        foot.show();
        Check.due("w is out", foot.spare(1), -1);
        Check.due("v is in still", foot.spare(0), 0);
        FilmFoot none = Check.foot(THINGS + "scene a yes under a no ; watcher w eye trust 1 walks 1 ; doubts 1 ;");
        Check.due("by none", none.spare(0), -1);
    }

    private static void spareFewest() {
        FilmFoot foot = Check.foot(THINGS + "scene a yes under a no ; scene b yes under a yes ; scene a yes under a no ; scene b yes under b no ; "
            + "watcher w child trust 1 walks 2 ; watcher u child trust 1 walks 3 ; watcher t child trust 1 walks 1 ; doubts clash ;");
        Check.due("two of three", foot.spare(0), 5);
        Check.due("one of three", foot.spare(1), 1);
        Check.due("three", foot.spare(2), 13);
        foot.cut(0);
        Check.due("what is cut is not cut again", foot.spare(0), 4);
        Check.due("no more for u", foot.spare(1), 0);
        foot.show();
        foot.show();
        foot.show();
        Check.due("what was shown is not cut", foot.spare(0), 8);
        Check.due("t is out", foot.spare(2), -1);
    }

    private static void wavers() {
        FilmFoot foot = Check.foot(THINGS + "scene a yes under a no ; scene a no under b yes ; scene a yes under a yes ; scene a yes under a no ; "
            + "watcher v ear trust 1 walks 9 ; watcher u eye trust 1 walks 9 ; watcher t both trust 1 walks 2 ; watcher s both trust 1 walks 4 ; watcher r child trust 1 walks 9 ;");
        int[] want = {2, 2, 0, 2, 0};
        for (int watcher = 0; watcher < 5; watcher++) {
            Check.due("wavers(" + watcher + ")", foot.wavers(watcher), want[watcher]);
        }
        Check.due("wavers(5)", foot.wavers(5), -1);
        Check.due("wavers(-1)", foot.wavers(-1), -1);
        Check.due("nothing was shown", foot.count(3), 0);
        foot.show();
        Check.due("t walked out", foot.wavers(2), 0);
        Check.due("v then", foot.wavers(0), 2);
        foot.show();
        Check.due("v later", foot.wavers(0), 1);
        Check.due("s later", foot.wavers(3), 1);
        foot.cut(2);
        Check.due("v by the last one", foot.wavers(0), 1);
        foot.cut(3);
        Check.due("v takes nothing", foot.wavers(0), 0);
    }

    private static void chance() {
        FilmFoot foot = Check.foot(FILM);
        Check.due("none is cut", foot.chance(0, 0, 0), 0);
        Check.due("the last one is cut", foot.chance(0, 0, 5), 250000);
        Check.due("by 3", foot.chance(0, 0, 3), 210000);
        Check.due("by 7", foot.chance(0, 0, 7), 210000);
        Check.due("by 1", foot.chance(0, 0, 1), 90000);
        Check.due("all are cut", foot.chance(0, 0, 10), 0);
        Check.due("of b", foot.chance(0, 1, 4), 0);
        Check.due("an eye reads all the same", foot.chance(3, 1, 7), 1000000);
        Check.due("chance(4, 0, 1)", foot.chance(4, 0, 1), -1);
        Check.due("chance(-1, 0, 1)", foot.chance(-1, 0, 1), -1);
        Check.due("chance(0, 2, 1)", foot.chance(0, 2, 1), -1);
        Check.due("chance(0, -1, 1)", foot.chance(0, -1, 1), -1);
        Check.due("odds 11", foot.chance(0, 0, 11), -1);
        Check.due("odds -1", foot.chance(0, 0, -1), -1);
        foot.show();
        Check.due("one is shown", foot.chance(0, 0, 2), 200000);
        foot.cut(2);
        Check.due("one is cut by hand", foot.chance(0, 0, 2), 1000000);
        Check.due("nothing is cut by it", foot.count(6), 4);
    }

    private static void chanceParts() {
        StringBuilder film = new StringBuilder("thing a ; ");
        for (int scene = 0; scene < 8; scene++) {
            film.append(scene < 7 ? "scene a no under a no ; " : "scene a yes under a no ; ");
        }
        FilmFoot foot = Check.foot(film + "watcher v ear trust 1 walks 30 ;");
        Check.due("the last one says yes", foot.chance(0, 0, 1), 900000);
        FilmFoot turned = Check.foot("thing a ; scene a yes under a no ; " + "scene a no under a no ; ".repeat(7)
            + "watcher v ear trust 1 walks 30 ;");
        Check.due("seven of odds 9 and one of odds 1", turned.chance(0, 0, 9), 47829);
        Check.due("seven of odds 5", turned.chance(0, 0, 5), 3906);
        Check.due("seven of odds 1", turned.chance(0, 0, 1), 0);
        Check.due("seven of odds 3", turned.chance(0, 0, 3), 153);
    }
}
