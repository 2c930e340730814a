/** Promise 37: YEARS by DRAWS, held against the same deeds done by hand on another object. */
public final class YearsTest {
    private static final String FILM = "thing a ; thing b ; thing c ; scene a yes under b no ; scene b no under b yes ; scene c no under a no ; "
        + "scene c yes under c yes ; watcher v ear trust 7 walks 30 ; watcher u eye trust 5 walks 20 ; watcher t both trust 4 walks 25 ; "
        + "watcher s child trust 1 walks 9 ; watcher r both trust 9 walks 6 ; star 2 ; doubts 1 - seen + odd * 2 ;";

    public static void main(String[] args) {
        others();
        byHand();
        fromNowOn();
        withoutMuch();
        Check.end();
    }

    private static long drawn = 0;

    private static int draw(int below) {
        drawn = (drawn * 1103515245L + 12345L) & 0x7fffffffL;
        return (int) ((drawn >> 16) % below);
    }

    private static FilmFoot foot(String film) {
        return film.isEmpty() ? new FilmFoot() : Check.foot(film);
    }

    private static void year(FilmFoot foot) {
        if (foot.show() == -1) {
            foot.again();
        }
        if (foot.count(2) > 0) {
            int one = draw(foot.count(2));
            foot.talk(one, draw(foot.count(2)));
        }
        if (foot.count(1) > 0 && foot.count(0) > 0 && draw(9) == 0) {
            int scene = draw(foot.count(1));
            int thing = draw(foot.count(0));
            foot.write(scene, thing, draw(2) == 1);
        }
    }

    private static void same(String when, FilmFoot asked, FilmFoot done, int seed, int steps) {
        drawn = seed;
        for (int step = 0; step < steps; step++) {
            year(done);
        }
        int yes = 0;
        for (int watcher = 0; watcher < done.count(2); watcher++) {
            for (int thing = 0; thing < done.count(0); thing++) {
                yes += done.thinks(watcher, thing) == 1 ? 1 : 0;
            }
        }
        String call = when + " years(" + seed + ", " + steps + ", ";
        Check.due(call + "0)", asked.years(seed, steps, 0), done.count(5));
        Check.due(call + "1)", asked.years(seed, steps, 1), done.count(7));
        Check.due(call + "2)", asked.years(seed, steps, 2), yes);
    }

    private static void others() {
        FilmFoot foot = Check.foot(FILM);
        Check.due("seed -1", foot.years(-1, 1, 0), -1);
        Check.due("seed 10000", foot.years(10000, 1, 0), -1);
        Check.due("steps 0", foot.years(1, 0, 0), -1);
        Check.due("steps 100", foot.years(1, 100, 0), -1);
        Check.due("what -1", foot.years(1, 1, -1), -1);
        Check.due("what 3", foot.years(1, 1, 3), -1);
        Check.due("seed 0", foot.years(0, 1, 0), 31);
        Check.due("seed 9999, steps 99", foot.years(9999, 99, 0) >= 0, true);
    }

    private static void byHand() {
        int[] seeds = {0, 1, 7, 42, 123, 999, 5000, 9999};
        int[] steps = {1, 2, 3, 5, 9, 20, 60, 99};
        for (int seed : seeds) {
            for (int step : steps) {
                same("ahead", foot(FILM), foot(FILM), seed, step);
            }
        }
    }

    private static void fromNowOn() {
        for (int seed = 0; seed < 30; seed++) {
            FilmFoot asked = Check.foot(FILM);
            FilmFoot done = Check.foot(FILM);
            for (FilmFoot foot : new FilmFoot[] {asked, done}) {
                foot.show();
                foot.write(2, 1, true);
                foot.cut(3);
                foot.show();
                foot.talk(0, 2);
            }
            same("amid", asked, done, seed, 4 + seed);
            Check.due("shown stays", asked.count(3), 2);
            Check.due("in stays", asked.count(5), 31);
            Check.due("reissues stay", asked.count(4), 0);
            Check.due("undone stays", asked.count(11), 5);
            Check.due("written stays", asked.scene(2, 2), 1);
            Check.due("thought stays", asked.thinks(0, 2), -1);
        }
    }

    private static void withoutMuch() {
        String[] films = {"", "thing a ;", "watcher v ear trust 7 walks 30 ;", "thing a ; scene a yes under a no ;",
            "thing a ; scene a yes under a no ; watcher v eye trust 7 walks 30 ;",
            "watcher v ear trust 7 walks 30 ; watcher u eye trust 5 walks 20 ; thing a ;",
            "thing a ; scene a yes under a no ; watcher v eye trust 7 walks 1 ; watcher u eye trust 7 walks 8 ; doubts 1 ;"};
        for (String film : films) {
            for (int seed = 0; seed < 20; seed++) {
                same("of " + film, foot(film), foot(film), seed, 1 + seed * 3);
            }
        }
    }
}
