import java.util.Arrays;
import java.util.NoSuchElementException;

/**
 * Films told in a small language, with a second hand that writes along the foot of each scene.
 * What every call answers stands in ../shared/DOC.md; the words of its Terms are the names here.
 */
public final class FilmFoot {
    public static final int NONE = -1;

    private static final int OTHERS = -2;
    private static final int MOST_SIGNS = 1000;
    private static final int MOST_THINGS = 6;
    private static final int MOST_SCENES = 8;
    private static final int MOST_WATCHERS = 6;
    private static final int MOST_LINES = 40;
    private static final int MOST_UNDONE = 16;
    private static final int MOST_MARKS = 4;
    private static final int MOST_ROUNDS = 20;
    private static final int ALL_SETS = 1 << MOST_SCENES;
    private static final int VIEWS = MOST_WATCHERS * MOST_THINGS;

    private final Tape tape = new Tape();
    private final Reader reader = new Reader();
    private Film film = new Film();
    private Film spareFilm = new Film();
    private Evening evening = new Evening();
    private Evening spareEvening = new Evening();
    private final Hall now = new Hall();
    private final Hall trial = new Hall();
    private final Past past = new Past();
    private final Mark[] marks = new Mark[MOST_MARKS];
    private final int[] told = new int[VIEWS];
    private final int[] tally = new int[VIEWS * 3];
    private final Draw draw = new Draw();

    public FilmFoot() {
        for (int mark = 0; mark < marks.length; mark++) {
            marks[mark] = new Mark();
        }
        film.open(now);
    }

    public int feed(long a, long b, long c) {
        tape.add(a);
        tape.add(b);
        tape.add(c);
        return tape.length;
    }

    public int film() {
        int fault = reader.readFilm(tape, spareFilm);
        tape.length = 0;
        if (fault == 0) {
            Film old = film;
            film = spareFilm;
            spareFilm = old;
            begin();
        }
        return fault;
    }

    private void begin() {
        film.open(now);
        evening.lines = 0;
        past.kept = 0;
        Arrays.fill(told, 0);
        for (int mark = 0; mark < marks.length; mark++) {
            if (marks[mark] != null) {
                marks[mark].laid = false;
            }
        }
    }

    public int evening() {
        int fault = reader.readEvening(tape, film, spareEvening);
        tape.length = 0;
        if (fault == 0) {
            Evening old = evening;
            evening = spareEvening;
            spareEvening = old;
        }
        return fault;
    }

    public int scene(int scene, int what) {
        if (!film.hasScene(scene)) {
            return OTHERS;
        }
        switch (what) {
            case 0:
                return thingOf(film.saying(now, scene));
            case 1:
                return isOf(film.saying(now, scene));
            case 2:
                return thingOf(now.writing(scene));
            case 3:
                return isOf(now.writing(scene));
            case 4:
                return now.isCut(scene) ? 1 : 0;
            case 5:
                return scene < now.shown ? 1 : 0;
            default:
                return OTHERS;
        }
    }

    public int watcher(int watcher, int what) {
        if (!film.hasWatcher(watcher)) {
            return NONE;
        }
        switch (what) {
            case 0:
                return Row.get(film.kinds, watcher);
            case 1:
                return Row.get(film.trusts, watcher);
            case 2:
                return Row.get(film.walks, watcher);
            case 3:
                return Row.get(now.doubts, watcher);
            case 4:
                return now.isIn(watcher) ? 1 : 0;
            default:
                return NONE;
        }
    }

    public int thinks(int watcher, int thing) {
        return film.hasView(watcher, thing) ? now.thought(watcher, thing) : OTHERS;
    }

    public int show() {
        trial.copy(now);
        int out = film.screen(now);
        keepPast(out != NONE);
        return out;
    }

    public boolean write(int scene, int thing, boolean yes) {
        trial.copy(now);
        boolean done = film.hasThing(thing) && film.rewrite(now, scene, claim(thing, yes));
        keepPast(done);
        return done;
    }

    public boolean cut(int scene) {
        trial.copy(now);
        boolean done = film.takeAway(now, scene);
        keepPast(done);
        return done;
    }

    public int talk(int watcher, int other) {
        trial.copy(now);
        int changed = film.persuade(now, watcher, other);
        keepPast(changed != NONE);
        return changed;
    }

    public int again() {
        trial.copy(now);
        int reissues = film.reissue(now);
        keepPast(reissues != NONE);
        return reissues;
    }

    /** The trial holds what stood ahead of the deed: it becomes past only if the deed could be. */
    private void keepPast(boolean done) {
        if (done) {
            past.keep(trial);
        }
    }

    public boolean undo() {
        return past.bringBack(now);
    }

    public int judged(int what) {
        if (what < 0 || what > 2) {
            return OTHERS;
        }
        film.open(trial);
        int cannot = NONE;
        int walk = NONE;
        for (int line = 0; line < evening.lines; line++) {
            int out = play(line);
            if (out == NONE && cannot == NONE) {
                cannot = line;
            }
            if (out > 0 && walk == NONE) {
                walk = line;
            }
        }
        if (what == 2) {
            return Integer.bitCount(trial.in);
        }
        return what == 0 ? cannot : walk;
    }

    /** Who walks out by a line, as bits; NONE: the line can't be. */
    private int play(int line) {
        int first = Row.get(evening.firsts, line);
        int second = Row.get(evening.seconds, line);
        switch (Row.get(evening.deeds, line)) {
            case Evening.SHOW:
                return film.screen(trial);
            case Evening.WRITE:
                return film.rewrite(trial, first, second) ? 0 : NONE;
            case Evening.CUT:
                return film.takeAway(trial, first) ? 0 : NONE;
            case Evening.TALK:
                return film.persuade(trial, first, second) != NONE ? 0 : NONE;
            default:
                return film.reissue(trial) != NONE ? 0 : NONE;
        }
    }

    public int end(int watcher, int thing) {
        if (!film.hasView(watcher, thing)) {
            return OTHERS;
        }
        trial.copy(now);
        film.finish(trial);
        return trial.thought(watcher, thing);
    }

    public int first(int what) {
        if (what < 0 || what > 1) {
            return NONE;
        }
        trial.copy(now);
        for (int scene = now.shown; scene < film.scenes; scene++) {
            int out = film.screen(trial);
            if (out > 0) {
                return what == 0 ? Integer.numberOfTrailingZeros(out) : scene;
            }
        }
        return NONE;
    }

    public int forge(int watcher, int thing, boolean yes) {
        if (!film.hasView(watcher, thing)) {
            return NONE;
        }
        trial.copy(now);
        film.finish(trial);
        int stay = trial.in;
        int open = notShown();
        int fewest = NONE;
        for (int set = 0; set < ALL_SETS; set++) {
            if ((set & ~open) == 0 && isFewer(set, fewest)) {
                finishWritten(set, claim(thing, yes));
                if (trial.thought(watcher, thing) == (yes ? 1 : 0) && (stay & ~trial.in) == 0) {
                    fewest = set;
                }
            }
        }
        return fewest;
    }

    /** Of equal ones the first one tried stays, which is the least. */
    private static boolean isFewer(int set, int fewest) {
        return fewest == NONE || Integer.bitCount(set) < Integer.bitCount(fewest);
    }

    private void finishWritten(int set, int claim) {
        trial.copy(now);
        for (int scene = 0; scene < film.scenes; scene++) {
            if ((set >> scene & 1) == 1) {
                Row.set(trial.written, scene, claim);
            }
        }
        film.finish(trial);
    }

    private void finishCut(int set) {
        trial.copy(now);
        trial.cut |= set;
        film.finish(trial);
    }

    private int notShown() {
        return film.allScenes() & ~((1 << now.shown) - 1);
    }

    private int cuttable() {
        return notShown() & ~now.cut;
    }

    public int spare(int watcher) {
        if (!film.hasWatcher(watcher) || !now.isIn(watcher)) {
            return NONE;
        }
        int open = cuttable();
        int fewest = NONE;
        for (int set = 0; set < ALL_SETS; set++) {
            if ((set & ~open) == 0 && isFewer(set, fewest)) {
                finishCut(set);
                if (trial.isIn(watcher)) {
                    fewest = set;
                }
            }
        }
        return fewest;
    }

    public int takes(int watcher, int scene) {
        if (!film.hasWatcher(watcher) || !film.hasScene(scene)) {
            return OTHERS;
        }
        return film.taken(watcher, film.saying(now, scene), now.writing(scene));
    }

    public int blank(int watcher) {
        if (!film.hasWatcher(watcher)) {
            return NONE;
        }
        int things = 0;
        for (int thing = 0; thing < film.things; thing++) {
            if (now.thought(watcher, thing) == NONE) {
                things |= 1 << thing;
            }
        }
        return things;
    }

    public int mentions(int thing, int what) {
        if (!film.hasThing(thing) || what < 0 || what > 1) {
            return NONE;
        }
        int scenes = 0;
        for (int scene = 0; scene < film.scenes; scene++) {
            if (thingOf(claimOf(scene, what)) == thing) {
                scenes |= 1 << scene;
            }
        }
        return scenes;
    }

    /** What a SCENE says (0) or writes (1) now. */
    private int claimOf(int scene, int what) {
        return what == 0 ? film.saying(now, scene) : now.writing(scene);
    }

    /** How a THING is said (0) or written (1) last, of all SCENES; NONE: it is not. */
    private int last(int thing, int what) {
        int last = NONE;
        for (int scene = 0; scene < film.scenes; scene++) {
            if (thingOf(claimOf(scene, what)) == thing) {
                last = isOf(claimOf(scene, what));
            }
        }
        return last;
    }

    public int fooled(int thing) {
        if (!film.hasThing(thing)) {
            return NONE;
        }
        int last = last(thing, 0);
        if (last == NONE) {
            return 0;
        }
        int fools = 0;
        for (int watcher = 0; watcher < film.watchers; watcher++) {
            int thought = now.thought(watcher, thing);
            if (now.isIn(watcher) && thought != NONE && thought != last) {
                fools |= 1 << watcher;
            }
        }
        return fools;
    }

    public int sway() {
        int most = 0;
        int pair = NONE;
        for (int one = 0; one < film.watchers; one++) {
            for (int other = 0; other < film.watchers; other++) {
                int changes = film.persuasions(now, one, other);
                if (changes > most) {
                    most = changes;
                    pair = 8 * one + other;
                }
            }
        }
        return pair;
    }

    public int quarrels() {
        int pairs = 0;
        for (int one = 0; one < film.watchers; one++) {
            for (int other = one + 1; other < film.watchers; other++) {
                if (now.isIn(one) && now.isIn(other) && quarrel(one, other)) {
                    pairs++;
                }
            }
        }
        return pairs;
    }

    private boolean quarrel(int one, int other) {
        for (int thing = 0; thing < film.things; thing++) {
            int his = now.thought(one, thing);
            int others = now.thought(other, thing);
            if (his != NONE && others != NONE && his != others) {
                return true;
            }
        }
        return false;
    }

    public int couples() {
        int pairs = 0;
        int free = now.in;
        for (int one = 0; one < film.watchers; one++) {
            int partner = (free >> one & 1) == 1 ? partner(one, free) : NONE;
            if (partner != NONE) {
                free &= ~(1 << one | 1 << partner);
                pairs++;
            }
        }
        return pairs;
    }

    /** Thinking alike is thinking alike all round, so the first that fits is as good as any. */
    private int partner(int one, int free) {
        for (int other = one + 1; other < film.watchers; other++) {
            if ((free >> other & 1) == 1 && alike(one, other)) {
                return other;
            }
        }
        return NONE;
    }

    private boolean alike(int one, int other) {
        for (int thing = 0; thing < film.things; thing++) {
            if (now.thought(one, thing) != now.thought(other, thing)) {
                return false;
            }
        }
        return true;
    }

    public boolean tell(int watcher, int thing, int is) {
        if (!film.hasView(watcher, thing) || is < NONE || is > 1) {
            return false;
        }
        Row.set(told, watcher * MOST_THINGS + thing, is + 2);
        return true;
    }

    private boolean isTold(int watcher, int thing) {
        return Row.get(told, watcher * MOST_THINGS + thing) > 0;
    }

    public int sets(int what) {
        if (what < 0 || what > 2) {
            return NONE;
        }
        int open = cuttable();
        int count = 0;
        int inAll = open;
        int inSome = 0;
        for (int set = 0; set < ALL_SETS; set++) {
            if ((set & ~open) == 0) {
                finishCut(set);
                if (isAsTold()) {
                    count++;
                    inAll &= set;
                    inSome |= set;
                }
            }
        }
        if (what == 0) {
            return count;
        }
        if (count == 0) {
            return NONE;
        }
        return what == 1 ? inAll : inSome;
    }

    /** Whether all that is TOLD is so in the trial. */
    private boolean isAsTold() {
        for (int watcher = 0; watcher < film.watchers; watcher++) {
            for (int thing = 0; thing < film.things; thing++) {
                int is = Row.get(told, watcher * MOST_THINGS + thing) - 2;
                if (isTold(watcher, thing) && is != trial.thought(watcher, thing)) {
                    return false;
                }
            }
        }
        return true;
    }

    public int ask() {
        int open = cuttable();
        int least = 0;
        Arrays.fill(tally, 0);
        for (int set = 0; set < ALL_SETS; set++) {
            if ((set & ~open) == 0) {
                finishCut(set);
                if (isAsTold()) {
                    least++;
                    tallyEnd();
                }
            }
        }
        int best = NONE;
        for (int watcher = 0; watcher < film.watchers; watcher++) {
            for (int thing = 0; thing < film.things; thing++) {
                int greatest = greatestTally(watcher * MOST_THINGS + thing);
                if (!isTold(watcher, thing) && greatest < least) {
                    least = greatest;
                    best = 8 * watcher + thing;
                }
            }
        }
        return best;
    }

    private void tallyEnd() {
        for (int watcher = 0; watcher < film.watchers; watcher++) {
            for (int thing = 0; thing < film.things; thing++) {
                int view = watcher * MOST_THINGS + thing;
                int at = view * 3 + trial.thought(watcher, thing) + 1;
                Row.set(tally, at, Row.get(tally, at) + 1);
            }
        }
    }

    private int greatestTally(int view) {
        int nothing = Row.get(tally, view * 3);
        int no = Row.get(tally, view * 3 + 1);
        int yes = Row.get(tally, view * 3 + 2);
        return Math.max(nothing, Math.max(no, yes));
    }

    public int clashes() {
        int scenes = 0;
        for (int scene = 0; scene < film.scenes; scene++) {
            scenes |= Film.clash(film.saying(now, scene), now.writing(scene)) << scene;
        }
        return scenes;
    }

    public int wavers(int watcher) {
        if (!film.hasWatcher(watcher)) {
            return NONE;
        }
        trial.copy(now);
        int often = 0;
        for (int scene = now.shown; scene < film.scenes; scene++) {
            int claim = film.taken(watcher, film.saying(trial, scene), trial.writing(scene));
            if (trial.isIn(watcher)) {
                often += Film.odd(trial, watcher, claim);
            }
            film.screen(trial);
        }
        return often;
    }

    public int lone(int watcher) {
        if (!film.hasWatcher(watcher)) {
            return NONE;
        }
        int things = 0;
        for (int thing = 0; thing < film.things; thing++) {
            int is = now.thought(watcher, thing);
            if (is != NONE && (thinkers(thing, is) & ~(1 << watcher)) == 0) {
                things |= 1 << thing;
            }
        }
        return things;
    }

    public int moves() {
        int things = 0;
        for (int thing = 0; thing < film.things; thing++) {
            if (last(thing, 1) != last(thing, 0)) {
                things |= 1 << thing;
            }
        }
        return things;
    }

    public int agree() {
        trial.copy(now);
        for (int rounds = 0; rounds <= MOST_ROUNDS; rounds++) {
            if (!talkRound()) {
                return rounds;
            }
        }
        return NONE;
    }

    private boolean talkRound() {
        boolean changed = false;
        for (int one = 0; one < film.watchers; one++) {
            if (film.persuade(trial, one, nextIn(one)) > 0) {
                changed = true;
            }
        }
        return changed;
    }

    private int nextIn(int one) {
        for (int step = 1; step < film.watchers; step++) {
            int other = one + step < film.watchers ? one + step : one + step - film.watchers;
            if (trial.isIn(other)) {
                return other;
            }
        }
        return one;
    }

    public int chance(int watcher, int thing, int odds) {
        if (!film.hasView(watcher, thing) || odds < 0 || odds > 10) {
            return NONE;
        }
        int open = notShown();
        long all = 0;
        long good = 0;
        for (int set = 0; set < ALL_SETS; set++) {
            if ((set & ~open) == 0) {
                long weight = weight(set, open, odds);
                finishCut(set);
                all += weight;
                good += trial.thought(watcher, thing) == 1 ? weight : 0;
            }
        }
        return all > 0 ? (int) (good * 1000000 / all) : 0;
    }

    private static long weight(int set, int open, int odds) {
        long weight = 1;
        for (int scene = 0; scene < MOST_SCENES; scene++) {
            if ((open >> scene & 1) == 1) {
                weight *= (set >> scene & 1) == 1 ? odds : 10 - odds;
            }
        }
        return weight;
    }

    public int who(int thing, int is) {
        if (!film.hasThing(thing) || is < NONE || is > 1) {
            return NONE;
        }
        return thinkers(thing, is);
    }

    private int thinkers(int thing, int is) {
        int thinkers = 0;
        for (int watcher = 0; watcher < film.watchers; watcher++) {
            if (now.isIn(watcher) && now.thought(watcher, thing) == is) {
                thinkers |= 1 << watcher;
            }
        }
        return thinkers;
    }

    public int rests(int let, int cuts, int lose, int what) throws NoSuchElementException {
        if (!isDigit(let) || !isDigit(cuts) || !isDigit(lose) || what < NONE) {
            throw new NoSuchElementException();
        }
        int found = 0;
        for (int pair = 0; pair < 4; pair++) {
            if (rest(pair >> 1, pair & 1, let, cuts, lose) && rest(pair & 1, pair >> 1, let, cuts, lose)) {
                if (found == what) {
                    return pair;
                }
                found++;
            }
        }
        if (what == NONE) {
            return found;
        }
        throw new NoSuchElementException();
    }

    private static boolean isDigit(int number) {
        return number >= 0 && number <= 9;
    }

    /** Whether the censor who chose so would not get more by his other choice. */
    private static boolean rest(int own, int others, int let, int cuts, int lose) {
        return gain(1 - own, others, let, cuts, lose) <= gain(own, others, let, cuts, lose);
    }

    private static int gain(int own, int others, int let, int cuts, int lose) {
        if (others == 1) {
            return own == 1 ? -lose : 0;
        }
        return own == 1 ? cuts : let;
    }

    public int years(int seed, int steps, int what) {
        if (seed < 0 || seed > 9999 || steps < 1 || steps > 99 || what < 0 || what > 2) {
            return NONE;
        }
        trial.copy(now);
        draw.last = seed;
        for (int step = 0; step < steps; step++) {
            passYear();
        }
        if (what == 0) {
            return trial.in;
        }
        return what == 1 ? doubtOfAll(trial) : yesOfAll();
    }

    private void passYear() {
        if (film.screen(trial) == NONE) {
            film.reissue(trial);
        }
        if (film.watchers > 0) {
            int one = draw.below(film.watchers);
            int other = draw.below(film.watchers);
            film.persuade(trial, one, other);
        }
        if (film.scenes > 0 && film.things > 0 && draw.below(9) == 0) {
            int scene = draw.below(film.scenes);
            int thing = draw.below(film.things);
            boolean yes = draw.below(2) == 1;
            film.rewrite(trial, scene, claim(thing, yes));
        }
    }

    private int yesOfAll() {
        int yes = 0;
        for (int watcher = 0; watcher < film.watchers; watcher++) {
            for (int thing = 0; thing < film.things; thing++) {
                yes += trial.thought(watcher, thing) == 1 ? 1 : 0;
            }
        }
        return yes;
    }

    private int doubtOfAll(Hall hall) {
        int doubt = 0;
        for (int watcher = 0; watcher < film.watchers; watcher++) {
            doubt += Row.get(hall.doubts, watcher);
        }
        return doubt;
    }

    public boolean mark(int mark, boolean back) {
        if (mark < 0 || mark >= marks.length || marks[mark] == null) {
            return false;
        }
        Mark it = marks[mark];
        if (!back) {
            it.lay(now, told);
            return true;
        }
        if (!it.laid) {
            return false;
        }
        it.bringBack(now, told);
        past.kept = 0;
        return true;
    }

    public int count(int what) {
        switch (what) {
            case 0:
                return film.things;
            case 1:
                return film.scenes;
            case 2:
                return film.watchers;
            case 3:
                return now.shown;
            case 4:
                return now.reissues;
            case 5:
                return now.in;
            case 6:
                return now.cut;
            case 7:
                return doubtOfAll(now);
            case 8:
                return film.star;
            case 9:
                return evening.lines;
            case 10:
                return toldCount();
            case 11:
                return past.kept;
            case 12:
                return tape.length;
            default:
                return NONE;
        }
    }

    private int toldCount() {
        int count = 0;
        for (int view = 0; view < told.length; view++) {
            count += told[view] > 0 ? 1 : 0;
        }
        return count;
    }

    /** A THING and IS in one number, as takes answers it. */
    private static int claim(int thing, boolean yes) {
        return 2 * thing + (yes ? 1 : 0);
    }

    private static int thingOf(int claim) {
        return claim == NONE ? NONE : claim >> 1;
    }

    private static int isOf(int claim) {
        return claim == NONE ? NONE : claim & 1;
    }

    /** Rows of numbers, with the index looked at first. */
    private static final class Row {
        static int get(int[] row, int at) {
            return at >= 0 && at < row.length ? row[at] : NONE;
        }

        static void set(int[] row, int at, int value) {
            if (at >= 0 && at < row.length) {
                row[at] = value;
            }
        }

        static void copy(int[] from, int[] to) {
            System.arraycopy(from, 0, to, 0, Math.min(from.length, to.length));
        }
    }

    /** All that deeds change and UNDO brings back. */
    private static final class Hall {
        private int shown;
        private int reissues;
        private int in;
        private int cut;
        private final int[] written = new int[MOST_SCENES];
        private final int[] thoughts = new int[VIEWS];
        private final int[] doubts = new int[MOST_WATCHERS];

        void copy(Hall from) {
            shown = from.shown;
            reissues = from.reissues;
            in = from.in;
            cut = from.cut;
            Row.copy(from.written, written);
            Row.copy(from.thoughts, thoughts);
            Row.copy(from.doubts, doubts);
        }

        boolean isIn(int watcher) {
            return (in >> watcher & 1) == 1;
        }

        boolean isCut(int scene) {
            return (cut >> scene & 1) == 1;
        }

        int writing(int scene) {
            return Row.get(written, scene);
        }

        int thought(int watcher, int thing) {
            int view = watcher * MOST_THINGS + thing;
            return view >= 0 && view < thoughts.length ? thoughts[view] : NONE;
        }

        void think(int watcher, int thing, int is) {
            Row.set(thoughts, watcher * MOST_THINGS + thing, is);
        }
    }

    /** The last halls, in a ring. */
    private static final class Past {
        private final Hall[] halls = new Hall[MOST_UNDONE];
        private int next;
        private int kept;

        Past() {
            for (int at = 0; at < halls.length; at++) {
                halls[at] = new Hall();
            }
        }

        void keep(Hall hall) {
            if (next < 0 || next >= halls.length || halls[next] == null) {
                return;
            }
            halls[next].copy(hall);
            next = next + 1 < halls.length ? next + 1 : 0;
            kept = Math.min(kept + 1, halls.length);
        }

        boolean bringBack(Hall hall) {
            int last = next > 0 ? next - 1 : halls.length - 1;
            if (kept <= 0 || last < 0 || last >= halls.length || halls[last] == null) {
                return false;
            }
            hall.copy(halls[last]);
            next = last;
            kept--;
            return true;
        }
    }

    /** A MARK: a hall and what was TOLD then. */
    private static final class Mark {
        private boolean laid;
        private final Hall hall = new Hall();
        private final int[] told = new int[VIEWS];

        void lay(Hall now, int[] toldNow) {
            laid = true;
            hall.copy(now);
            Row.copy(toldNow, told);
        }

        void bringBack(Hall now, int[] toldNow) {
            now.copy(hall);
            Row.copy(told, toldNow);
        }
    }

    /** The draws of YEARS. */
    private static final class Draw {
        private long last;

        int below(int most) {
            last = (last * 1103515245L + 12345L) % 2147483648L;
            return most > 0 ? (int) (last / 65536 % most) : 0;
        }
    }

    /** A FILM as it was told, and what its showing does to a hall. */
    private static final class Film {
        static final int EAR = 0;
        static final int EYE = 1;
        static final int BOTH = 2;
        static final int CHILD = 3;

        private int things;
        private int scenes;
        private int watchers;
        private int star = MOST_SCENES;
        private final long[] thingNames = new long[MOST_THINGS];
        private final long[] watcherNames = new long[MOST_WATCHERS];
        private final int[] said = new int[MOST_SCENES];
        private final int[] firstWritten = new int[MOST_SCENES];
        private final int[] kinds = new int[MOST_WATCHERS];
        private final int[] trusts = new int[MOST_WATCHERS];
        private final int[] walks = new int[MOST_WATCHERS];
        /** The law of doubt for each WATCHER, SCENE, clash and odd: it depends on nothing else. */
        private final int[] doubtsMore = new int[MOST_WATCHERS * MOST_SCENES * 4];

        void clear() {
            things = 0;
            scenes = 0;
            watchers = 0;
            star = MOST_SCENES;
        }

        void addThing(long name) {
            if (things < thingNames.length) {
                thingNames[things] = name;
                things++;
            }
        }

        void addScene(int saidClaim, int writtenClaim) {
            if (scenes < MOST_SCENES) {
                Row.set(said, scenes, saidClaim);
                Row.set(firstWritten, scenes, writtenClaim);
                scenes++;
            }
        }

        void addWatcher(long name, int kind, int trust, int walk) {
            if (watchers < watcherNames.length) {
                watcherNames[watchers] = name;
                Row.set(kinds, watchers, kind);
                Row.set(trusts, watchers, trust);
                Row.set(walks, watchers, walk);
                watchers++;
            }
        }

        /** A law that was not told is null. */
        void setDoubts(Law law) {
            for (int watcher = 0; watcher < watchers; watcher++) {
                for (int scene = 0; scene < scenes; scene++) {
                    for (int facts = 0; facts < 4; facts++) {
                        int more = law == null ? plainDoubt(watcher, facts >> 1, facts & 1)
                            : law.value(facts >> 1, Row.get(trusts, watcher), facts & 1, scene);
                        int at = doubtAt(watcher, scene, facts >> 1, facts & 1);
                        Row.set(doubtsMore, at, Math.max(0, Math.min(9, more)));
                    }
                }
            }
        }

        private int plainDoubt(int watcher, int clash, int odd) {
            return Row.get(kinds, watcher) == BOTH ? 2 * clash + odd : odd;
        }

        private static int doubtAt(int watcher, int scene, int clash, int odd) {
            return (watcher * MOST_SCENES + scene) * 4 + 2 * clash + odd;
        }

        int thingNamed(long name) {
            for (int thing = 0; thing < things && thing < thingNames.length; thing++) {
                if (thingNames[thing] == name) {
                    return thing;
                }
            }
            return NONE;
        }

        int watcherNamed(long name) {
            for (int watcher = 0; watcher < watchers && watcher < watcherNames.length; watcher++) {
                if (watcherNames[watcher] == name) {
                    return watcher;
                }
            }
            return NONE;
        }

        boolean hasThing(int thing) {
            return thing >= 0 && thing < things;
        }

        boolean hasScene(int scene) {
            return scene >= 0 && scene < scenes;
        }

        boolean hasWatcher(int watcher) {
            return watcher >= 0 && watcher < watchers;
        }

        boolean hasView(int watcher, int thing) {
            return hasWatcher(watcher) && hasThing(thing);
        }

        int allScenes() {
            return (1 << scenes) - 1;
        }

        void open(Hall hall) {
            hall.shown = 0;
            hall.reissues = 0;
            hall.in = (1 << watchers) - 1;
            hall.cut = 0;
            Row.copy(firstWritten, hall.written);
            Arrays.fill(hall.thoughts, NONE);
            Arrays.fill(hall.doubts, 0);
        }

        /** What a SCENE says now; NONE: it is cut. */
        int saying(Hall hall, int scene) {
            if (hall.isCut(scene)) {
                return NONE;
            }
            int told = Row.get(said, scene);
            if (scene < star) {
                return told;
            }
            for (int ahead = scene - 1; ahead >= 0; ahead--) {
                if (thingOf(hall.writing(ahead)) == thingOf(told)) {
                    return hall.writing(ahead);
                }
            }
            return told;
        }

        /** What a WATCHER takes of what is said and what is written; NONE: nothing. */
        int taken(int watcher, int heard, int read) {
            switch (Row.get(kinds, watcher)) {
                case EAR:
                    return heard;
                case EYE:
                    return read;
                case BOTH:
                    return heard != NONE && Row.get(trusts, watcher) < 5 ? heard : read;
                default:
                    return heard == read ? heard : NONE;
            }
        }

        static int clash(int heard, int read) {
            return thingOf(heard) == thingOf(read) && heard != read ? 1 : 0;
        }

        static int odd(Hall hall, int watcher, int claim) {
            if (claim == NONE) {
                return 0;
            }
            int thought = hall.thought(watcher, thingOf(claim));
            return thought != NONE && thought != isOf(claim) ? 1 : 0;
        }

        /** SHOW: who walks out, as bits; NONE: it can't be. */
        int screen(Hall hall) {
            if (hall.shown >= scenes) {
                return NONE;
            }
            int heard = saying(hall, hall.shown);
            int read = hall.writing(hall.shown);
            int out = 0;
            for (int watcher = 0; watcher < watchers; watcher++) {
                if (hall.isIn(watcher) && watch(hall, watcher, heard, read)) {
                    out |= 1 << watcher;
                }
            }
            hall.in &= ~out;
            hall.shown++;
            return out;
        }

        /** Whether he walks out by the SCENE that is shown now. */
        private boolean watch(Hall hall, int watcher, int heard, int read) {
            int claim = taken(watcher, heard, read);
            int at = doubtAt(watcher, hall.shown, clash(heard, read), odd(hall, watcher, claim));
            int doubt = Row.get(hall.doubts, watcher) + Row.get(doubtsMore, at);
            Row.set(hall.doubts, watcher, doubt);
            if (claim != NONE) {
                hall.think(watcher, thingOf(claim), isOf(claim));
            }
            return doubt >= Row.get(walks, watcher);
        }

        void finish(Hall hall) {
            for (int scene = hall.shown; scene < scenes; scene++) {
                screen(hall);
            }
        }

        boolean rewrite(Hall hall, int scene, int claim) {
            if (!hasScene(scene) || scene < hall.shown) {
                return false;
            }
            Row.set(hall.written, scene, claim);
            return true;
        }

        boolean takeAway(Hall hall, int scene) {
            if (!hasScene(scene) || scene < hall.shown || hall.isCut(scene)) {
                return false;
            }
            hall.cut |= 1 << scene;
            return true;
        }

        /** How many THINGS a TALK would change; NONE: it can't be. */
        int persuasions(Hall hall, int one, int other) {
            if (!hasWatcher(one) || !hasWatcher(other) || one == other || !hall.isIn(one) || !hall.isIn(other)) {
                return NONE;
            }
            int changes = 0;
            for (int thing = 0; thing < things; thing++) {
                changes += persuades(hall, one, other, thing) ? 1 : 0;
            }
            return changes;
        }

        private boolean persuades(Hall hall, int one, int other, int thing) {
            int his = hall.thought(one, thing);
            int others = hall.thought(other, thing);
            return his != NONE && his != others && (others == NONE || Row.get(trusts, other) > 4);
        }

        /** TALK: how many THINGS it changed; NONE: it can't be. */
        int persuade(Hall hall, int one, int other) {
            int changes = persuasions(hall, one, other);
            for (int thing = 0; thing < things && changes > 0; thing++) {
                if (persuades(hall, one, other, thing)) {
                    hall.think(other, thing, hall.thought(one, thing));
                }
            }
            return changes;
        }

        /** AGAIN: reissues then; NONE: it can't be. */
        int reissue(Hall hall) {
            if (hall.shown < scenes) {
                return NONE;
            }
            hall.shown = 0;
            hall.reissues++;
            return hall.reissues;
        }
    }

    /** The lines of an EVENING. */
    private static final class Evening {
        static final int SHOW = 0;
        static final int WRITE = 1;
        static final int CUT = 2;
        static final int TALK = 3;
        static final int AGAIN = 4;

        private int lines;
        private final int[] deeds = new int[MOST_LINES];
        private final int[] firsts = new int[MOST_LINES];
        private final int[] seconds = new int[MOST_LINES];

        void add(int deed, int first, int second) {
            if (lines < MOST_LINES) {
                Row.set(deeds, lines, deed);
                Row.set(firsts, lines, first);
                Row.set(seconds, lines, second);
                lines++;
            }
        }
    }

    /** The WORDS with a meaning of their own; the facts may be NAMES all the same. */
    private enum Word {
        THING("thing", true), SCENE("scene", true), YES("yes", true), NO("no", true), UNDER("under", true),
        WATCHER("watcher", true), TRUST("trust", true), WALKS("walks", true), STAR("star", true),
        DOUBTS("doubts", true), SHOW("show", true), WRITE("write", true), CUT("cut", true), TALK("talk", true),
        AGAIN("again", true), EAR("ear", true), EYE("eye", true), BOTH("both", true), CHILD("child", true),
        NOT("not", true), AND("and", true), OR("or", true),
        CLASH("clash", false), BELIEF("belief", false), ODD("odd", false), SEEN("seen", false);

        private static final Word[] ALL = values();

        private final long code;
        private final boolean kept;

        Word(String text, boolean kept) {
            long sum = 0;
            for (int at = 0; at < text.length(); at++) {
                sum = Tape.longer(sum, text.charAt(at));
            }
            this.code = sum;
            this.kept = kept;
        }

        /** null: none. */
        static Word named(long name) {
            for (int at = 0; at < ALL.length; at++) {
                if (ALL[at] != null && ALL[at].code == name) {
                    return ALL[at];
                }
            }
            return null;
        }
    }

    /** The TAPE, its token at hand, and the first FAULT. Behind a FAULT no token is read any more. */
    private static final class Tape {
        private static final int END = 0;
        private static final int WRONG = 1;
        private static final int WORD = 2;
        private static final int NUMBER = 3;
        private static final int SIGN = 4;
        private static final int LONGEST_WORD = 8;
        private static final int LONGEST_NUMBER = 4;

        private final char[] signs = new char[MOST_SIGNS];
        private int length;
        private int ahead;
        private int place;
        private int kind;
        private int value;
        private long name;
        private Word word;
        private int fault;

        void add(long bytes) {
            for (int shift = 56; shift >= 0; shift -= 8) {
                char sign = (char) (bytes >>> shift & 255);
                if ((sign == 10 || sign >= 32 && sign <= 126) && length >= 0 && length < signs.length) {
                    signs[length] = sign;
                    length++;
                }
            }
        }

        void begin() {
            ahead = 0;
            fault = 0;
            step();
        }

        void refuse(int faultKind) {
            if (fault == 0) {
                fault = faultKind + 16 * place;
            }
        }

        void step() {
            if (fault != 0) {
                return;
            }
            while (ahead < length && (signAt(ahead) == 10 || signAt(ahead) == 32)) {
                ahead++;
            }
            place = ahead;
            word = null;
            char sign = signAt(ahead);
            if (ahead >= length) {
                kind = END;
            } else if (isLetter(sign)) {
                readWord();
            } else if (isDigit(sign)) {
                readNumber();
            } else {
                kind = "()<=+-*;".indexOf(sign) >= 0 ? SIGN : WRONG;
                value = sign;
                ahead++;
            }
        }

        private void readWord() {
            name = 0;
            while (ahead < length && isLetter(signAt(ahead))) {
                name = longer(name, signAt(ahead));
                ahead++;
            }
            kind = ahead - place <= LONGEST_WORD ? WORD : WRONG;
            word = Word.named(name);
        }

        /** Eight letters fit in a long, so that NAMES need no texts. */
        static long longer(long name, char letter) {
            return name * 32 + letter - 'a' + 1;
        }

        private void readNumber() {
            value = 0;
            while (ahead < length && isDigit(signAt(ahead))) {
                value = value * 10 + signAt(ahead) - '0';
                ahead++;
            }
            kind = ahead - place <= LONGEST_NUMBER ? NUMBER : WRONG;
        }

        /** Behind the end the sign 0, which is never on the TAPE. */
        private char signAt(int at) {
            return at >= 0 && at < length && at < signs.length ? signs[at] : 0;
        }

        private static boolean isLetter(char sign) {
            return sign >= 'a' && sign <= 'z';
        }

        private static boolean isDigit(char sign) {
            return sign >= '0' && sign <= '9';
        }

        boolean goesOn() {
            return fault == 0 && kind != END;
        }

        boolean isSign(char sign) {
            return fault == 0 && kind == SIGN && value == sign;
        }

        boolean isWord(Word wanted) {
            return fault == 0 && kind == WORD && word == wanted;
        }

        boolean isName() {
            return kind == WORD && (word == null || !word.kept);
        }

        void need(Word wanted) {
            if (!isWord(wanted)) {
                refuse(1);
            }
            step();
        }

        void needSign(char sign) {
            if (!isSign(sign)) {
                refuse(1);
            }
            step();
        }

        int number(int least, int most) {
            if (kind != NUMBER) {
                refuse(1);
            } else if (value < least || value > most) {
                refuse(4);
            }
            int number = value;
            step();
            return number;
        }
    }

    /** Reads the TAPE as a FILM or an EVENING. */
    private static final class Reader {
        private final Law law = new Law();
        private boolean starTold;
        private boolean lawTold;

        /** 0, or the FAULT: the film is not to be used then. */
        int readFilm(Tape tape, Film film) {
            film.clear();
            starTold = false;
            lawTold = false;
            tape.begin();
            for (int line = 0; line < MOST_SIGNS && tape.goesOn(); line++) {
                if (tape.isWord(Word.THING)) {
                    readThing(tape, film);
                } else if (tape.isWord(Word.SCENE)) {
                    readScene(tape, film);
                } else if (tape.isWord(Word.WATCHER)) {
                    readWatcher(tape, film);
                } else if (tape.isWord(Word.STAR)) {
                    readStar(tape, film);
                } else if (tape.isWord(Word.DOUBTS)) {
                    readDoubts(tape);
                } else {
                    tape.refuse(1);
                }
            }
            if (tape.fault == 0) {
                film.setDoubts(lawTold ? law : null);
            }
            return tape.fault;
        }

        private void readThing(Tape tape, Film film) {
            if (film.things >= MOST_THINGS) {
                tape.refuse(5);
            }
            tape.step();
            long name = newName(tape, film);
            tape.needSign(';');
            if (tape.fault == 0) {
                film.addThing(name);
            }
        }

        private void readScene(Tape tape, Film film) {
            if (film.scenes >= MOST_SCENES) {
                tape.refuse(5);
            }
            tape.step();
            int said = readClaim(tape, film);
            tape.need(Word.UNDER);
            int written = readClaim(tape, film);
            tape.needSign(';');
            if (tape.fault == 0) {
                film.addScene(said, written);
            }
        }

        private void readWatcher(Tape tape, Film film) {
            if (film.watchers >= MOST_WATCHERS) {
                tape.refuse(5);
            }
            tape.step();
            long name = newName(tape, film);
            int kind = readKind(tape);
            tape.need(Word.TRUST);
            int trust = tape.number(0, 9);
            tape.need(Word.WALKS);
            int walks = tape.number(1, 30);
            tape.needSign(';');
            if (tape.fault == 0) {
                film.addWatcher(name, kind, trust, walks);
            }
        }

        private void readStar(Tape tape, Film film) {
            if (starTold) {
                tape.refuse(3);
            }
            starTold = true;
            tape.step();
            film.star = tape.number(0, MOST_SCENES);
            tape.needSign(';');
        }

        private void readDoubts(Tape tape) {
            if (lawTold) {
                tape.refuse(3);
            }
            lawTold = true;
            tape.step();
            law.size = 0;
            law.readAll(tape, 0);
            tape.needSign(';');
        }

        private static long newName(Tape tape, Film film) {
            long name = tape.name;
            if (!tape.isName()) {
                tape.refuse(1);
            } else if (film.thingNamed(name) != NONE || film.watcherNamed(name) != NONE) {
                tape.refuse(3);
            }
            tape.step();
            return name;
        }

        private static int readKind(Tape tape) {
            int kind = NONE;
            if (tape.isWord(Word.EAR)) {
                kind = Film.EAR;
            } else if (tape.isWord(Word.EYE)) {
                kind = Film.EYE;
            } else if (tape.isWord(Word.BOTH)) {
                kind = Film.BOTH;
            } else if (tape.isWord(Word.CHILD)) {
                kind = Film.CHILD;
            } else {
                tape.refuse(1);
            }
            tape.step();
            return kind;
        }

        /** A THING's NAME and IS. */
        private static int readClaim(Tape tape, Film film) {
            int thing = film.thingNamed(tape.name);
            if (!tape.isName()) {
                tape.refuse(1);
            } else if (thing == NONE) {
                tape.refuse(2);
            }
            tape.step();
            boolean yes = tape.isWord(Word.YES);
            if (!yes && !tape.isWord(Word.NO)) {
                tape.refuse(1);
            }
            tape.step();
            return claim(thing, yes);
        }

        /** 0, or the FAULT: the evening is not to be used then. */
        int readEvening(Tape tape, Film film, Evening evening) {
            evening.lines = 0;
            tape.begin();
            for (int line = 0; line < MOST_SIGNS && tape.goesOn(); line++) {
                readEveningLine(tape, film, evening);
            }
            return tape.fault;
        }

        private static void readEveningLine(Tape tape, Film film, Evening evening) {
            int deed = deedAt(tape);
            if (deed == NONE) {
                tape.refuse(1);
            } else if (evening.lines >= MOST_LINES) {
                tape.refuse(5);
            }
            tape.step();
            int first = 0;
            int second = 0;
            if (deed == Evening.WRITE || deed == Evening.CUT) {
                first = tape.number(0, MOST_SCENES - 1);
            }
            if (deed == Evening.WRITE) {
                second = readClaim(tape, film);
            }
            if (deed == Evening.TALK) {
                first = readTalker(tape, film, NONE);
                second = readTalker(tape, film, first);
            }
            tape.needSign(';');
            if (tape.fault == 0) {
                evening.add(deed, first, second);
            }
        }

        private static int deedAt(Tape tape) {
            if (tape.isWord(Word.SHOW)) {
                return Evening.SHOW;
            }
            if (tape.isWord(Word.WRITE)) {
                return Evening.WRITE;
            }
            if (tape.isWord(Word.CUT)) {
                return Evening.CUT;
            }
            if (tape.isWord(Word.TALK)) {
                return Evening.TALK;
            }
            return tape.isWord(Word.AGAIN) ? Evening.AGAIN : NONE;
        }

        private static int readTalker(Tape tape, Film film, int other) {
            int watcher = film.watcherNamed(tape.name);
            if (!tape.isName()) {
                tape.refuse(1);
            } else if (watcher == NONE) {
                tape.refuse(2);
            } else if (watcher == other) {
                tape.refuse(3);
            }
            tape.step();
            return watcher;
        }
    }

    /** The law of doubt, each deed behind what it is done to. */
    private static final class Law {
        private static final int MOST_WITHIN = 5;
        /** NUMBERS stand in the code as they are, so all else is less than 0. */
        private static final int CLASH = -1;
        private static final int BELIEF = -2;
        private static final int ODD = -3;
        private static final int SEEN = -4;
        private static final int NOT = -5;
        private static final int TIMES = -6;
        private static final int PLUS = -7;
        private static final int MINUS = -8;
        private static final int LESS = -9;
        private static final int SAME = -10;
        private static final int AND = -11;
        private static final int OR = -12;

        private final int[] code = new int[MOST_SIGNS];
        private int size;
        /** No deeper than four values for each of the five levels of brackets, and one. */
        private final int[] values = new int[4 * (MOST_WITHIN + 1)];

        private void emit(int deed) {
            if (size < code.length) {
                Row.set(code, size, deed);
                size++;
            }
        }

        /** An E that stands within so many of not and ( ). */
        private void readAll(Tape tape, int within) {
            readTest(tape, within);
            for (int tests = 0; tests < MOST_SIGNS && (tape.isWord(Word.AND) || tape.isWord(Word.OR)); tests++) {
                int deed = tape.isWord(Word.AND) ? AND : OR;
                tape.step();
                readTest(tape, within);
                emit(deed);
            }
        }

        private void readTest(Tape tape, int within) {
            readSum(tape, within);
            if (tape.isSign('<') || tape.isSign('=')) {
                int deed = tape.isSign('<') ? LESS : SAME;
                tape.step();
                readSum(tape, within);
                emit(deed);
            }
        }

        private void readSum(Tape tape, int within) {
            readProduct(tape, within);
            for (int products = 0; products < MOST_SIGNS && (tape.isSign('+') || tape.isSign('-')); products++) {
                int deed = tape.isSign('+') ? PLUS : MINUS;
                tape.step();
                readProduct(tape, within);
                emit(deed);
            }
        }

        private void readProduct(Tape tape, int within) {
            readPart(tape, within);
            for (int parts = 0; parts < MOST_SIGNS && tape.isSign('*'); parts++) {
                tape.step();
                readPart(tape, within);
                emit(TIMES);
            }
        }

        private void readPart(Tape tape, int within) {
            int fact = factAt(tape);
            boolean number = tape.kind == Tape.NUMBER;
            boolean not = tape.isWord(Word.NOT);
            if (!number && !not && fact == 0 && !tape.isSign('(')) {
                tape.refuse(1);
            }
            if (within >= MOST_WITHIN) {
                tape.refuse(5);
            }
            if (tape.fault != 0) {
                return;
            }
            int value = tape.value;
            tape.step();
            if (number) {
                emit(value);
            } else if (fact != 0) {
                emit(fact);
            } else if (not) {
                readPart(tape, within + 1);
                emit(NOT);
            } else {
                readAll(tape, within + 1);
                tape.needSign(')');
            }
        }

        /** 0: no fact. */
        private static int factAt(Tape tape) {
            if (tape.isWord(Word.CLASH)) {
                return CLASH;
            }
            if (tape.isWord(Word.BELIEF)) {
                return BELIEF;
            }
            if (tape.isWord(Word.ODD)) {
                return ODD;
            }
            return tape.isWord(Word.SEEN) ? SEEN : 0;
        }

        int value(int clash, int belief, int odd, int seen) {
            int depth = 0;
            for (int at = 0; at < size; at++) {
                int deed = Row.get(code, at);
                if (deed > NOT) {
                    Row.set(values, depth, deed >= 0 ? deed : fact(deed, clash, belief, odd, seen));
                    depth++;
                } else if (deed == NOT) {
                    Row.set(values, depth - 1, Row.get(values, depth - 1) == 0 ? 1 : 0);
                } else {
                    depth--;
                    Row.set(values, depth - 1, both(deed, Row.get(values, depth - 1), Row.get(values, depth)));
                }
            }
            return Row.get(values, 0);
        }

        private static int fact(int fact, int clash, int belief, int odd, int seen) {
            switch (fact) {
                case CLASH:
                    return clash;
                case BELIEF:
                    return belief;
                case ODD:
                    return odd;
                default:
                    return seen;
            }
        }

        private static int both(int deed, int one, int other) {
            switch (deed) {
                case TIMES:
                    return one * other;
                case PLUS:
                    return one + other;
                case MINUS:
                    return one - other;
                case LESS:
                    return one < other ? 1 : 0;
                case SAME:
                    return one == other ? 1 : 0;
                case AND:
                    return one != 0 && other != 0 ? 1 : 0;
                default:
                    return one != 0 || other != 0 ? 1 : 0;
            }
        }
    }
}
