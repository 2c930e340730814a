import java.util.ArrayDeque;
import java.util.ArrayList;
import java.util.Arrays;
import java.util.List;
import java.util.NoSuchElementException;
import java.util.Set;
import java.util.function.BiFunction;
import java.util.regex.Matcher;
import java.util.regex.Pattern;

/** The document once more, written from its words alone and in its slowest form, for ModelTest. */
final class Model {
    interface Law {
        int of(int clash, int belief, int odd, int seen);
    }

    private static final class Fault extends RuntimeException {
        private static final long serialVersionUID = 1L;
        private final int fault;

        Fault(int kind, Token token) {
            fault = kind + 16 * token.place;
        }
    }

    private record Token(String text, int place) {
        boolean isWord() {
            return text.matches("[a-z]{1,8}");
        }

        boolean isNumber() {
            return text.matches("[0-9]{1,4}");
        }

        boolean is(String other) {
            return text.equals(other);
        }
    }

    private record Claim(int thing, int is) {
    }

    private record Scene(Claim said, Claim written) {
    }

    private record Watcher(String kind, int trust, int walks) {
    }

    private record Line(String deed, int first, int second, Claim claim) {
    }

    private static final class Told {
        private final List<String> things = new ArrayList<>();
        private final List<String> watcherNames = new ArrayList<>();
        private final List<Scene> scenes = new ArrayList<>();
        private final List<Watcher> watchers = new ArrayList<>();
        private int star = 8;
        private boolean starTold;
        private Law law;
    }

    private static final class State {
        private int shown;
        private int reissues;
        private boolean[] out;
        private boolean[] cut;
        private Claim[] written;
        private Integer[][] thinks;
        private int[] doubt;

        State copy() {
            State copy = new State();
            copy.shown = shown;
            copy.reissues = reissues;
            copy.out = out.clone();
            copy.cut = cut.clone();
            copy.written = written.clone();
            copy.thinks = new Integer[thinks.length][];
            for (int watcher = 0; watcher < thinks.length; watcher++) {
                copy.thinks[watcher] = thinks[watcher].clone();
            }
            copy.doubt = doubt.clone();
            return copy;
        }
    }

    private static final Set<String> KEPT = Set.of("thing", "scene", "yes", "no", "under", "watcher", "trust", "walks",
        "star", "doubts", "show", "write", "cut", "talk", "again", "ear", "eye", "both", "child", "not", "and", "or");

    private final StringBuilder tape = new StringBuilder();
    private Told film = new Told();
    private List<Line> evening = new ArrayList<>();
    private State now = begin();
    private final ArrayDeque<State> past = new ArrayDeque<>();
    private Integer[][] told = new Integer[6][6];
    private final State[] marks = new State[4];
    private final Integer[][][] markTold = new Integer[4][][];

    // ---- the tape and its tokens

    int feed(long a, long b, long c) {
        for (long part : new long[] {a, b, c}) {
            for (int at = 7; at >= 0; at--) {
                int sign = (int) (part >> 8 * at) & 0xff;
                if ((sign == 10 || 32 <= sign && sign < 127) && tape.length() < 1000) {
                    tape.append((char) sign);
                }
            }
        }
        return tape.length();
    }

    private List<Token> tokens;
    private int at;

    private void scan() {
        tokens = new ArrayList<>();
        Matcher matcher = Pattern.compile("[ \n]+|([a-z]+|[0-9]+|.)").matcher(tape);
        while (matcher.find()) {
            if (matcher.group(1) != null) {
                tokens.add(new Token(matcher.group(1), matcher.start(1)));
            }
        }
        tokens.add(new Token("", tape.length()));
        at = 0;
        tape.setLength(0);
    }

    private Token here() {
        return tokens.get(at);
    }

    private Token take() {
        return tokens.get(at++);
    }

    private void take(String text) {
        if (!here().is(text)) {
            throw new Fault(1, here());
        }
        at++;
    }

    private int number(int least, int most) {
        Token token = here();
        if (!token.isNumber()) {
            throw new Fault(1, token);
        }
        int number = Integer.parseInt(token.text);
        if (number < least || number > most) {
            throw new Fault(4, token);
        }
        at++;
        return number;
    }

    private String name() {
        if (!here().isWord() || KEPT.contains(here().text)) {
            throw new Fault(1, here());
        }
        return here().text;
    }

    private String newName(Told draft) {
        String name = name();
        if (draft.things.contains(name) || draft.watcherNames.contains(name)) {
            throw new Fault(3, here());
        }
        at++;
        return name;
    }

    private int known(List<String> names) {
        int known = names.indexOf(name());
        if (known < 0) {
            throw new Fault(2, here());
        }
        return known;
    }

    private Claim claim(Told draft) {
        int thing = known(draft.things);
        at++;
        if (!here().is("yes") && !here().is("no")) {
            throw new Fault(1, here());
        }
        return new Claim(thing, take().is("yes") ? 1 : 0);
    }

    // ---- films

    int film() {
        scan();
        Told draft = new Told();
        try {
            while (here().text.length() > 0) {
                filmLine(draft, take());
            }
        } catch (Fault fault) {
            return fault.fault;
        }
        film = draft;
        now = begin();
        evening = new ArrayList<>();
        past.clear();
        told = new Integer[6][6];
        Arrays.fill(marks, null);
        return 0;
    }

    private static void most(int size, int most, Token token) {
        if (size == most) {
            throw new Fault(5, token);
        }
    }

    private void filmLine(Told draft, Token first) {
        switch (first.text) {
            case "thing" -> {
                most(draft.things.size(), 6, first);
                draft.things.add(newName(draft));
            }
            case "scene" -> {
                most(draft.scenes.size(), 8, first);
                Claim said = claim(draft);
                take("under");
                draft.scenes.add(new Scene(said, claim(draft)));
            }
            case "watcher" -> {
                most(draft.watchers.size(), 6, first);
                String name = newName(draft);
                if (!Set.of("ear", "eye", "both", "child").contains(here().text)) {
                    throw new Fault(1, here());
                }
                String kind = take().text;
                take("trust");
                int trust = number(0, 9);
                take("walks");
                draft.watchers.add(new Watcher(kind, trust, number(1, 30)));
                draft.watcherNames.add(name);
            }
            case "star" -> {
                if (draft.starTold) {
                    throw new Fault(3, first);
                }
                draft.starTold = true;
                draft.star = number(0, 8);
            }
            case "doubts" -> {
                if (draft.law != null) {
                    throw new Fault(3, first);
                }
                draft.law = law(0);
            }
            default -> throw new Fault(1, first);
        }
        take(";");
    }

    private static Law join(Law one, Law other, BiFunction<Integer, Integer, Integer> how) {
        return (c, b, o, s) -> how.apply(one.of(c, b, o, s), other.of(c, b, o, s));
    }

    private Law law(int within) {
        Law law = test(within);
        while (here().is("and") || here().is("or")) {
            boolean and = take().is("and");
            law = join(law, test(within), (x, y) -> and ? (x != 0 & y != 0 ? 1 : 0) : (x != 0 | y != 0 ? 1 : 0));
        }
        return law;
    }

    private Law test(int within) {
        Law law = sum(within);
        if (here().is("<")) {
            take();
            return join(law, sum(within), (x, y) -> x < y ? 1 : 0);
        }
        if (here().is("=")) {
            take();
            return join(law, sum(within), (x, y) -> x.intValue() == y.intValue() ? 1 : 0);
        }
        return law;
    }

    private Law sum(int within) {
        Law law = product(within);
        while (here().is("+") || here().is("-")) {
            law = take().is("+") ? join(law, product(within), (x, y) -> x + y) : join(law, product(within), (x, y) -> x - y);
        }
        return law;
    }

    private Law product(int within) {
        Law law = part(within);
        while (here().is("*")) {
            take();
            law = join(law, part(within), (x, y) -> x * y);
        }
        return law;
    }

    private Law part(int within) {
        Token token = here();
        if (!token.isNumber() && !Set.of("clash", "belief", "odd", "seen", "not", "(").contains(token.text)) {
            throw new Fault(1, token);
        }
        if (within == 5) {
            throw new Fault(5, token);
        }
        take();
        switch (token.text) {
            case "clash":
                return (c, b, o, s) -> c;
            case "belief":
                return (c, b, o, s) -> b;
            case "odd":
                return (c, b, o, s) -> o;
            case "seen":
                return (c, b, o, s) -> s;
            case "not": {
                Law part = part(within + 1);
                return (c, b, o, s) -> part.of(c, b, o, s) == 0 ? 1 : 0;
            }
            case "(": {
                Law law = law(within + 1);
                take(")");
                return law;
            }
            default: {
                int number = Integer.parseInt(token.text);
                return (c, b, o, s) -> number;
            }
        }
    }

    // ---- evenings

    int evening() {
        scan();
        List<Line> lines = new ArrayList<>();
        try {
            while (here().text.length() > 0) {
                lines.add(eveningLine(lines.size()));
                take(";");
            }
        } catch (Fault fault) {
            return fault.fault;
        }
        evening = lines;
        return 0;
    }

    private Line eveningLine(int before) {
        Token first = here();
        if (!Set.of("show", "write", "cut", "talk", "again").contains(first.text)) {
            throw new Fault(1, first);
        }
        most(before, 40, first);
        take();
        switch (first.text) {
            case "write": {
                int scene = number(0, 7);
                return new Line("write", scene, 0, claim(film));
            }
            case "cut":
                return new Line("cut", number(0, 7), 0, null);
            case "talk": {
                int one = known(film.watcherNames);
                take();
                int other = known(film.watcherNames);
                if (other == one) {
                    throw new Fault(3, here());
                }
                take();
                return new Line("talk", one, other, null);
            }
            default:
                return new Line(first.text, 0, 0, null);
        }
    }

    // ---- the deeds, each answering null when it can't be

    private State begin() {
        State state = new State();
        int scenes = film.scenes.size();
        int watchers = film.watchers.size();
        state.out = new boolean[watchers];
        state.cut = new boolean[scenes];
        state.written = new Claim[scenes];
        for (int scene = 0; scene < scenes; scene++) {
            state.written[scene] = film.scenes.get(scene).written;
        }
        state.thinks = new Integer[watchers][film.things.size()];
        state.doubt = new int[watchers];
        return state;
    }

    private Claim says(State state, int scene) {
        if (state.cut[scene]) {
            return null;
        }
        Claim said = film.scenes.get(scene).said;
        Claim says = said;
        for (int ahead = 0; ahead < scene && scene >= film.star; ahead++) {
            if (state.written[ahead].thing == said.thing) {
                says = state.written[ahead];
            }
        }
        return says;
    }

    private Claim took(State state, int watcher, int scene) {
        Claim says = says(state, scene);
        Claim writes = state.written[scene];
        Watcher who = film.watchers.get(watcher);
        if (who.kind.equals("ear")) {
            return says;
        }
        if (who.kind.equals("eye")) {
            return writes;
        }
        if (who.kind.equals("child")) {
            return writes.equals(says) ? says : null;
        }
        return who.trust < 5 && says != null ? says : writes;
    }

    private boolean isOdd(State state, int watcher, int scene) {
        Claim claim = took(state, watcher, scene);
        return claim != null && state.thinks[watcher][claim.thing] != null && state.thinks[watcher][claim.thing] != claim.is;
    }

    private boolean isClash(State state, int scene) {
        Claim says = says(state, scene);
        return says != null && says.thing == state.written[scene].thing && says.is != state.written[scene].is;
    }

    private Integer show(State state) {
        if (state.shown == film.scenes.size()) {
            return null;
        }
        int out = 0;
        int scene = state.shown;
        for (int watcher = 0; watcher < film.watchers.size(); watcher++) {
            if (state.out[watcher]) {
                continue;
            }
            Watcher who = film.watchers.get(watcher);
            int odd = isOdd(state, watcher, scene) ? 1 : 0;
            int clash = isClash(state, scene) ? 1 : 0;
            int more = film.law != null ? film.law.of(clash, who.trust, odd, scene)
                : who.kind.equals("both") ? 2 * clash + odd : odd;
            state.doubt[watcher] += more < 0 ? 0 : more > 9 ? 9 : more;
            Claim claim = took(state, watcher, scene);
            if (claim != null) {
                state.thinks[watcher][claim.thing] = claim.is;
            }
            if (state.doubt[watcher] >= who.walks) {
                state.out[watcher] = true;
                out += 1 << watcher;
            }
        }
        state.shown++;
        return out;
    }

    private Integer write(State state, int scene, Claim claim) {
        if (!hasScene(scene) || scene < state.shown) {
            return null;
        }
        state.written[scene] = claim;
        return 0;
    }

    private Integer cut(State state, int scene) {
        if (!hasScene(scene) || scene < state.shown || state.cut[scene]) {
            return null;
        }
        state.cut[scene] = true;
        return 0;
    }

    private Integer talk(State state, int one, int other) {
        if (!hasWatcher(one) || !hasWatcher(other) || one == other || state.out[one] || state.out[other]) {
            return null;
        }
        int changed = 0;
        for (int thing = 0; thing < film.things.size(); thing++) {
            Integer his = state.thinks[one][thing];
            Integer others = state.thinks[other][thing];
            if (his != null && (others == null || film.watchers.get(other).trust > 4)) {
                changed += his.equals(others) ? 0 : 1;
                state.thinks[other][thing] = his;
            }
        }
        return changed;
    }

    private Integer again(State state) {
        if (state.shown < film.scenes.size()) {
            return null;
        }
        state.shown = 0;
        return ++state.reissues;
    }

    private boolean hasScene(int scene) {
        return scene >= 0 && scene < film.scenes.size();
    }

    private boolean hasWatcher(int watcher) {
        return watcher >= 0 && watcher < film.watchers.size();
    }

    private boolean hasThing(int thing) {
        return thing >= 0 && thing < film.things.size();
    }

    private int done(State before, Integer answer) {
        if (answer == null) {
            return -1;
        }
        past.push(before);
        if (past.size() > 16) {
            past.removeLast();
        }
        return answer;
    }

    int show() {
        State before = now.copy();
        return done(before, show(now));
    }

    boolean write(int scene, int thing, boolean yes) {
        State before = now.copy();
        return done(before, hasThing(thing) ? write(now, scene, new Claim(thing, yes ? 1 : 0)) : null) >= 0;
    }

    boolean cut(int scene) {
        State before = now.copy();
        return done(before, cut(now, scene)) >= 0;
    }

    int talk(int watcher, int other) {
        State before = now.copy();
        return done(before, talk(now, watcher, other));
    }

    int again() {
        State before = now.copy();
        return done(before, again(now));
    }

    boolean undo() {
        if (past.isEmpty()) {
            return false;
        }
        now = past.pop();
        return true;
    }

    boolean mark(int mark, boolean back) {
        if (mark < 0 || mark > 3 || back && marks[mark] == null) {
            return false;
        }
        if (back) {
            now = marks[mark].copy();
            told = deep(markTold[mark]);
            past.clear();
        } else {
            marks[mark] = now.copy();
            markTold[mark] = deep(told);
        }
        return true;
    }

    private static Integer[][] deep(Integer[][] rows) {
        Integer[][] deep = new Integer[rows.length][];
        for (int row = 0; row < rows.length; row++) {
            deep[row] = rows[row].clone();
        }
        return deep;
    }

    // ---- questions

    int scene(int scene, int what) {
        if (!hasScene(scene) || what < 0 || what > 5) {
            return -2;
        }
        Claim says = says(now, scene);
        int[] answers = {says == null ? -1 : says.thing, says == null ? -1 : says.is, now.written[scene].thing,
            now.written[scene].is, now.cut[scene] ? 1 : 0, now.shown > scene ? 1 : 0};
        return answers[what];
    }

    int watcher(int watcher, int what) {
        if (!hasWatcher(watcher) || what < 0 || what > 4) {
            return -1;
        }
        Watcher who = film.watchers.get(watcher);
        int[] answers = {List.of("ear", "eye", "both", "child").indexOf(who.kind), who.trust, who.walks,
            now.doubt[watcher], now.out[watcher] ? 0 : 1};
        return answers[what];
    }

    private static int thought(State state, int watcher, int thing) {
        return state.thinks[watcher][thing] == null ? -1 : state.thinks[watcher][thing];
    }

    int thinks(int watcher, int thing) {
        return hasWatcher(watcher) && hasThing(thing) ? thought(now, watcher, thing) : -2;
    }

    private int in(State state) {
        int in = 0;
        for (int watcher = 0; watcher < state.out.length; watcher++) {
            in |= state.out[watcher] ? 0 : 1 << watcher;
        }
        return in;
    }

    int judged(int what) {
        if (what < 0 || what > 2) {
            return -2;
        }
        State state = begin();
        int cannot = -1;
        int walk = -1;
        for (int line = evening.size() - 1; line >= 0; line--) {
            // from the back, so that the last one kept is the first one
            State before = begin();
            for (int done = 0; done < line; done++) {
                play(before, evening.get(done));
            }
            int in = in(before);
            if (play(before, evening.get(line)) == null) {
                cannot = line;
            }
            if (in(before) != in) {
                walk = line;
            }
        }
        for (Line line : evening) {
            play(state, line);
        }
        return what == 0 ? cannot : what == 1 ? walk : Integer.bitCount(in(state));
    }

    private Integer play(State state, Line line) {
        return switch (line.deed) {
            case "show" -> show(state);
            case "write" -> write(state, line.first, line.claim);
            case "cut" -> cut(state, line.first);
            case "talk" -> talk(state, line.first, line.second);
            default -> again(state);
        };
    }

    private State finish(State from) {
        State state = from.copy();
        while (show(state) != null) {
            continue;
        }
        return state;
    }

    int end(int watcher, int thing) {
        return hasWatcher(watcher) && hasThing(thing) ? thought(finish(now), watcher, thing) : -2;
    }

    int first(int what) {
        if (what != 0 && what != 1) {
            return -1;
        }
        State state = now.copy();
        while (state.shown < film.scenes.size()) {
            int out = show(state);
            for (int watcher = 0; watcher < 6; watcher++) {
                if ((out & 1 << watcher) != 0) {
                    return what == 0 ? watcher : state.shown - 1;
                }
            }
        }
        return -1;
    }

    private int fewest(List<Integer> sets) {
        int best = -1;
        for (int set : sets) {
            if (best == -1 || Integer.bitCount(set) < Integer.bitCount(best)
                || Integer.bitCount(set) == Integer.bitCount(best) && set < best) {
                best = set;
            }
        }
        return best;
    }

    int forge(int watcher, int thing, boolean yes) {
        if (!hasWatcher(watcher) || !hasThing(thing)) {
            return -1;
        }
        List<Integer> good = new ArrayList<>();
        State without = finish(now);
        for (int set = 255; set >= 0; set--) {
            State state = now.copy();
            boolean fits = true;
            for (int scene = 0; scene < 8; scene++) {
                if ((set & 1 << scene) != 0) {
                    fits &= write(state, scene, new Claim(thing, yes ? 1 : 0)) != null;
                }
            }
            State end = finish(state);
            for (int other = 0; other < film.watchers.size(); other++) {
                fits &= !end.out[other] || without.out[other];
            }
            if (fits && thought(end, watcher, thing) == (yes ? 1 : 0)) {
                good.add(set);
            }
        }
        return fewest(good);
    }

    /** The END when the set is cut; null: it can't be. */
    private State endOf(int set) {
        State state = now.copy();
        for (int scene = 0; scene < 8; scene++) {
            if ((set & 1 << scene) != 0 && cut(state, scene) == null) {
                return null;
            }
        }
        return finish(state);
    }

    int spare(int watcher) {
        if (!hasWatcher(watcher) || now.out[watcher]) {
            return -1;
        }
        List<Integer> good = new ArrayList<>();
        for (int set = 0; set < 256; set++) {
            State end = endOf(set);
            if (end != null && !end.out[watcher]) {
                good.add(set);
            }
        }
        return fewest(good);
    }

    int takes(int watcher, int scene) {
        if (!hasWatcher(watcher) || !hasScene(scene)) {
            return -2;
        }
        Claim claim = took(now, watcher, scene);
        return claim == null ? -1 : 2 * claim.thing + claim.is;
    }

    int blank(int watcher) {
        if (!hasWatcher(watcher)) {
            return -1;
        }
        int blank = 0;
        for (int thing = 0; thing < film.things.size(); thing++) {
            blank += now.thinks[watcher][thing] == null ? 1 << thing : 0;
        }
        return blank;
    }

    int mentions(int thing, int what) {
        if (!hasThing(thing) || what != 0 && what != 1) {
            return -1;
        }
        int scenes = 0;
        for (int scene = 0; scene < film.scenes.size(); scene++) {
            Claim claim = what == 0 ? says(now, scene) : now.written[scene];
            scenes += claim != null && claim.thing == thing ? 1 << scene : 0;
        }
        return scenes;
    }

    int fooled(int thing) {
        if (!hasThing(thing)) {
            return -1;
        }
        Integer last = null;
        for (int scene = 0; scene < film.scenes.size(); scene++) {
            Claim says = says(now, scene);
            last = says != null && says.thing == thing ? Integer.valueOf(says.is) : last;
        }
        return last == null ? 0 : who(thing, 1 - last);
    }

    int sway() {
        int most = 0;
        int best = -1;
        for (int pair = 0; pair < 64; pair++) {
            Integer changed = talk(now.copy(), pair / 8, pair % 8);
            if (changed != null && changed > most) {
                most = changed;
                best = pair;
            }
        }
        return best;
    }

    int quarrels() {
        int count = 0;
        for (int pair = 0; pair < 64; pair++) {
            int one = pair / 8;
            int other = pair % 8;
            if (one < other && hasWatcher(other) && !now.out[one] && !now.out[other]) {
                boolean quarrel = false;
                for (int thing = 0; thing < film.things.size(); thing++) {
                    quarrel |= thought(now, one, thing) + thought(now, other, thing) == 1
                        && thought(now, one, thing) >= 0 && thought(now, other, thing) >= 0;
                }
                count += quarrel ? 1 : 0;
            }
        }
        return count;
    }

    int couples() {
        return couples(in(now));
    }

    /** All ways to pair them. */
    private int couples(int free) {
        int most = 0;
        for (int one = 0; one < film.watchers.size(); one++) {
            for (int other = one + 1; other < film.watchers.size(); other++) {
                int pair = 1 << one | 1 << other;
                if ((free & pair) == pair && Arrays.equals(now.thinks[one], now.thinks[other])) {
                    most = Math.max(most, 1 + couples(free & ~pair));
                }
            }
            free &= ~(1 << one);
        }
        return most;
    }

    boolean tell(int watcher, int thing, int is) {
        if (!hasWatcher(watcher) || !hasThing(thing) || is < -1 || is > 1) {
            return false;
        }
        told[watcher][thing] = is;
        return true;
    }

    private List<Integer> sets() {
        List<Integer> sets = new ArrayList<>();
        for (int set = 0; set < 256; set++) {
            State end = endOf(set);
            boolean fits = end != null;
            for (int view = 0; view < 36; view++) {
                Integer is = told[view / 6][view % 6];
                fits = fits && (is == null || is == thought(end, view / 6, view % 6));
            }
            if (fits) {
                sets.add(set);
            }
        }
        return sets;
    }

    int sets(int what) {
        if (what < 0 || what > 2) {
            return -1;
        }
        List<Integer> sets = sets();
        if (what == 0 || sets.isEmpty()) {
            return what == 0 ? 0 + sets.size() : -1;
        }
        return sets.stream().reduce((x, y) -> what == 1 ? x & y : x | y).get();
    }

    int ask() {
        List<Integer> sets = sets();
        int least = sets.size();
        int best = -1;
        for (int watcher = 0; watcher < film.watchers.size(); watcher++) {
            for (int thing = 0; thing < film.things.size(); thing++) {
                if (told[watcher][thing] != null) {
                    continue;
                }
                int[] like = new int[3];
                for (int set : sets) {
                    like[1 + thought(endOf(set), watcher, thing)]++;
                }
                int greatest = Arrays.stream(like).max().getAsInt();
                if (greatest < least) {
                    least = greatest;
                    best = 8 * watcher + thing;
                }
            }
        }
        return best;
    }

    int clashes() {
        int scenes = 0;
        for (int scene = 0; scene < film.scenes.size(); scene++) {
            scenes += isClash(now, scene) ? 1 << scene : 0;
        }
        return scenes;
    }

    int wavers(int watcher) {
        if (!hasWatcher(watcher)) {
            return -1;
        }
        int often = 0;
        State state = now.copy();
        while (state.shown < film.scenes.size()) {
            often += !state.out[watcher] && isOdd(state, watcher, state.shown) ? 1 : 0;
            show(state);
        }
        return often;
    }

    int lone(int watcher) {
        if (!hasWatcher(watcher)) {
            return -1;
        }
        int things = 0;
        for (int thing = 0; thing < film.things.size(); thing++) {
            boolean lone = now.thinks[watcher][thing] != null;
            for (int other = 0; other < film.watchers.size(); other++) {
                lone &= other == watcher || now.out[other] || thought(now, other, thing) != thought(now, watcher, thing);
            }
            things += lone ? 1 << thing : 0;
        }
        return things;
    }

    int moves() {
        int things = 0;
        for (int thing = 0; thing < film.things.size(); thing++) {
            int eye = -1;
            int ear = -1;
            for (int scene = 0; scene < film.scenes.size(); scene++) {
                Claim says = says(now, scene);
                ear = says != null && says.thing == thing ? says.is : ear;
                eye = now.written[scene].thing == thing ? now.written[scene].is : eye;
            }
            things += eye != ear ? 1 << thing : 0;
        }
        return things;
    }

    int agree() {
        State state = now.copy();
        List<Integer> in = new ArrayList<>();
        for (int watcher = 0; watcher < film.watchers.size(); watcher++) {
            if (!state.out[watcher]) {
                in.add(watcher);
            }
        }
        for (int rounds = 0; rounds <= 20; rounds++) {
            int changed = 0;
            for (int place = 0; place < in.size(); place++) {
                Integer change = talk(state, in.get(place), in.get((place + 1) % in.size()));
                changed += change == null ? 0 : change;
            }
            if (changed == 0) {
                return rounds;
            }
        }
        return -1;
    }

    int chance(int watcher, int thing, int odds) {
        if (!hasWatcher(watcher) || !hasThing(thing) || odds < 0 || odds > 10) {
            return -1;
        }
        long good = yeses(now, now.shown, watcher, thing, odds);
        for (int scene = now.shown; scene < 8; scene++) {
            good *= scene < film.scenes.size() ? 1 : 10;
        }
        long all = 1;
        for (int scene = now.shown; scene < 8; scene++) {
            all *= 10;
        }
        return (int) (good * 1000000 / all);
    }

    /** One SCENE after the other is let or cut. */
    private long yeses(State state, int scene, int watcher, int thing, int odds) {
        if (scene == film.scenes.size()) {
            return thought(state, watcher, thing) == 1 ? 1 : 0;
        }
        State let = state.copy();
        show(let);
        State cut = state.copy();
        cut.cut[scene] = true;
        show(cut);
        return (10 - odds) * yeses(let, scene + 1, watcher, thing, odds) + odds * yeses(cut, scene + 1, watcher, thing, odds);
    }

    int who(int thing, int is) {
        if (!hasThing(thing) || is < -1 || is > 1) {
            return -1;
        }
        int who = 0;
        for (int watcher = 0; watcher < film.watchers.size(); watcher++) {
            who += !now.out[watcher] && thought(now, watcher, thing) == is ? 1 << watcher : 0;
        }
        return who;
    }

    int rests(int let, int cuts, int lose, int what) {
        for (int number : new int[] {let, cuts, lose}) {
            if (number < 0 || number > 9) {
                throw new NoSuchElementException();
            }
        }
        int[][] first = {{let, 0}, {cuts, -lose}};
        List<Integer> rests = new ArrayList<>();
        for (int one = 0; one < 2; one++) {
            for (int other = 0; other < 2; other++) {
                if (first[one][other] >= first[1 - one][other] && first[other][one] >= first[1 - other][one]) {
                    rests.add(2 * one + other);
                }
            }
        }
        if (what == -1) {
            return rests.size();
        }
        if (what < 0 || what >= rests.size()) {
            throw new NoSuchElementException();
        }
        return rests.get(what);
    }

    private int drawn;

    private int draw(int below) {
        drawn = drawn * 1103515245 + 12345 & Integer.MAX_VALUE;
        return (drawn >>> 16) % below;
    }

    int years(int seed, int steps, int what) {
        if (seed < 0 || seed > 9999 || steps < 1 || steps > 99 || what < 0 || what > 2) {
            return -1;
        }
        State state = now.copy();
        drawn = seed;
        int watchers = film.watchers.size();
        int scenes = film.scenes.size();
        for (int step = 0; step < steps; step++) {
            if (show(state) == null) {
                again(state);
            }
            if (watchers > 0) {
                int one = draw(watchers);
                int other = draw(watchers);
                talk(state, one, other);
            }
            if (scenes > 0 && draw(9) == 0) {
                int scene = draw(scenes);
                int thing = draw(film.things.size());
                write(state, scene, new Claim(thing, draw(2)));
            }
        }
        int yes = 0;
        for (Integer[] row : state.thinks) {
            for (Integer thought : row) {
                yes += thought != null && thought == 1 ? 1 : 0;
            }
        }
        return what == 0 ? in(state) : what == 1 ? Arrays.stream(state.doubt).sum() : yes;
    }

    int count(int what) {
        int cut = 0;
        for (int scene = 0; scene < film.scenes.size(); scene++) {
            cut += now.cut[scene] ? 1 << scene : 0;
        }
        int tales = 0;
        for (Integer[] row : told) {
            for (Integer is : row) {
                tales += is != null ? 1 : 0;
            }
        }
        int[] answers = {film.things.size(), film.scenes.size(), film.watchers.size(), now.shown, now.reissues, in(now),
            cut, Arrays.stream(now.doubt).sum(), film.star, evening.size(), tales, past.size(), tape.length()};
        return what >= 0 && what < answers.length ? answers[what] : -1;
    }
}
