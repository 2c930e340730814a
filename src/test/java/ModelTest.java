import java.util.ArrayList;
import java.util.List;
import java.util.NoSuchElementException;
import java.util.Random;

/** All promises at once: runs of random calls, each answer held against the Model's. The seeds are fixed. */
public final class ModelTest {
    private static final int RUNS = 700;
    private static final int CALLS = 512;
    private static final String[] PIECES = {"thing", "scene", "yes", "no", "under", "watcher", "trust", "walks", "star",
        "doubts", "show", "write", "cut", "talk", "again", "ear", "eye", "both", "child", "not", "and", "or", "clash",
        "belief", "odd", "seen", "a", "b", "t0", "ta", "wa", "0", "1", "5", "9", "10", "31", "1234", "12345", "abcdefgh",
        "abcdefghi", "(", ")", "<", "=", "+", "-", "*", ";", "?", "A", "\n", "~"};

    private final Random random;
    private final FilmFoot foot = new FilmFoot();
    private final Model model = new Model();
    private final int run;
    private int calls = 0;

    private ModelTest(int run) {
        this.run = run;
        random = new Random(run);
    }

    public static void main(String[] args) {
        int runs = args.length > 0 ? Integer.parseInt(args[0]) : RUNS;
        for (int run = 0; run < runs; run++) {
            new ModelTest(run).go();
        }
        Check.end();
    }

    private void go() {
        if (random.nextInt(10) > 0) {
            feedAll(film());
            due("film", foot.film(), model.film());
        }
        while (calls < CALLS) {
            int kind = random.nextInt(100);
            if (kind == 0) {
                feedAll(broken(film()));
                due("film", foot.film(), model.film());
            } else if (kind < 3) {
                feedAll(random.nextInt(4) > 0 ? evening() : broken(evening()));
                due("evening", foot.evening(), model.evening());
            } else if (kind == 3) {
                feedAll(film());
                due("film", foot.film(), model.film());
            } else if (kind < 35) {
                deed();
            } else {
                ask();
            }
        }
    }

    private void due(String call, int got, int want) {
        calls++;
        Check.due("run " + run + ", call " + calls + ": " + call, got, want);
    }

    private void due(String call, boolean got, boolean want) {
        due(call, got ? 1 : 0, want ? 1 : 0);
    }

    private void feedAll(String text) {
        for (int at = 0; at < text.length(); at += 24) {
            long a = Check.eight(text, at);
            long b = Check.eight(text, at + 8);
            long c = Check.eight(text, at + 16);
            due("feed", foot.feed(a, b, c), model.feed(a, b, c));
        }
    }

    // ---- texts

    private static String thing(int thing) {
        return "t" + (char) ('a' + thing);
    }

    private static String watcher(int watcher) {
        return "w" + (char) ('a' + watcher);
    }

    private int below(int most) {
        return random.nextInt(Math.max(1, most));
    }

    private String is() {
        return random.nextBoolean() ? " yes " : " no ";
    }

    private String film() {
        List<String> lines = new ArrayList<>();
        int things = random.nextInt(12) == 0 ? below(8) : 1 + below(4);
        int scenes = random.nextInt(12) == 0 ? 9 : below(9);
        int watchers = random.nextInt(12) == 0 ? 7 : below(7);
        for (int thing = 0; thing < things; thing++) {
            lines.add("thing " + thing(thing) + " ;");
        }
        for (int scene = 0; scene < scenes && things > 0; scene++) {
            int said = below(things);
            int written = random.nextInt(3) > 0 ? said : below(things);
            lines.add("scene " + thing(said) + is() + "under " + thing(written) + is() + ";");
        }
        for (int watcher = 0; watcher < watchers; watcher++) {
            int walks = random.nextInt(3) == 0 ? 1 + below(30) : 1 + below(8);
            lines.add("watcher " + watcher(watcher) + " " + PIECES[15 + below(4)] + " trust " + below(10) + "walks " + walks + ";");
        }
        if (random.nextInt(2) == 0) {
            lines.add(below(lines.size() + 1), "star " + below(9) + ";");
        }
        if (random.nextInt(3) > 0) {
            lines.add(below(lines.size() + 1), "doubts " + all(2) + ";");
        }
        return String.join(random.nextBoolean() ? " " : "\n", lines);
    }

    private String all(int depth) {
        StringBuilder text = new StringBuilder(test(depth));
        for (int more = random.nextInt(5) - 3; more > 0; more--) {
            text.append(random.nextBoolean() ? " and " : " or ").append(test(depth));
        }
        return text.toString();
    }

    private String test(int depth) {
        int kind = random.nextInt(6);
        return kind < 4 ? sum(depth) : sum(depth) + (kind == 4 ? " < " : " = ") + sum(depth);
    }

    private String sum(int depth) {
        StringBuilder text = new StringBuilder(product(depth));
        for (int more = random.nextInt(3); more > 0; more--) {
            text.append(random.nextBoolean() ? " + " : " - ").append(product(depth));
        }
        return text.toString();
    }

    private String product(int depth) {
        return random.nextInt(3) > 0 ? part(depth) : part(depth) + " * " + part(depth);
    }

    private String part(int depth) {
        int kind = random.nextInt(10);
        if (kind < 5) {
            return PIECES[22 + below(4)];
        }
        if (kind < 8 || depth == 0) {
            return String.valueOf(random.nextInt(20) == 0 ? below(10000) : below(4));
        }
        return kind == 8 ? "not " + part(depth - 1) : "(" + all(depth - 1) + ")";
    }

    private String evening() {
        StringBuilder text = new StringBuilder();
        int lines = random.nextInt(8) == 0 ? 38 + below(4) : below(16);
        for (int line = 0; line < lines; line++) {
            int kind = random.nextInt(10);
            if (kind < 4) {
                text.append("show ;");
            } else if (kind < 6) {
                text.append("write ").append(below(8)).append(thing(below(3))).append(is()).append(";");
            } else if (kind < 7) {
                text.append("cut ").append(below(8)).append(";");
            } else if (kind < 9) {
                int one = below(3);
                text.append("talk ").append(watcher(one)).append(" ").append(watcher((one + 1 + below(2)) % 3)).append(";");
            } else {
                text.append("again ;");
            }
        }
        return text.toString();
    }

    /** A text with some of it left out, put in or put in another place. */
    private String broken(String text) {
        StringBuilder broken = new StringBuilder(text);
        for (int times = 1 + below(2); times > 0; times--) {
            int at = below(broken.length() + 1);
            while (at > 0 && at < broken.length() && Character.isLetterOrDigit(broken.charAt(at)) && random.nextInt(8) > 0) {
                at--;
            }
            int end = at;
            if (random.nextBoolean()) {
                end++;
                while (end < broken.length() && Character.isLetterOrDigit(broken.charAt(end))) {
                    end++;
                }
            }
            String piece = random.nextInt(3) > 0 ? " " + PIECES[below(PIECES.length)] + " " : "";
            broken.replace(at, Math.min(end, broken.length()), piece);
        }
        return broken.toString();
    }

    // ---- calls

    private int watcher() {
        return random.nextInt(20) == 0 ? random.nextInt(9) - 1 : below(foot.count(2));
    }

    private int thing() {
        return random.nextInt(20) == 0 ? random.nextInt(9) - 1 : below(foot.count(0));
    }

    private int scene() {
        return random.nextInt(20) == 0 ? random.nextInt(12) - 1 : below(foot.count(1));
    }

    private int what(int most) {
        return random.nextInt(most + 2) - 1;
    }

    private void deed() {
        int kind = random.nextInt(32);
        int one = watcher();
        int other = watcher();
        int scene = scene();
        int thing = thing();
        boolean yes = random.nextBoolean();
        if (kind < 10) {
            due("show", foot.show(), model.show());
        } else if (kind < 14) {
            due("write " + scene + " " + thing + " " + yes, foot.write(scene, thing, yes), model.write(scene, thing, yes));
        } else if (kind < 16) {
            due("cut " + scene, foot.cut(scene), model.cut(scene));
        } else if (kind < 20) {
            due("talk " + one + " " + other, foot.talk(one, other), model.talk(one, other));
        } else if (kind < 24) {
            due("again", foot.again(), model.again());
        } else if (kind < 27) {
            due("undo", foot.undo(), model.undo());
        } else if (kind < 29) {
            int is = random.nextInt(5) - 2;
            due("tell " + one + " " + thing + " " + is, foot.tell(one, thing, is), model.tell(one, thing, is));
        } else {
            int mark = random.nextInt(20) == 0 ? what(6) : random.nextInt(3);
            boolean back = random.nextInt(3) > 0;
            due("mark " + mark + " " + back, foot.mark(mark, back), model.mark(mark, back));
        }
    }

    private void ask() {
        int what = what(14);
        int one = watcher();
        int thing = thing();
        int scene = scene();
        int is = random.nextInt(40) == 0 ? random.nextInt(9) - 4 : random.nextInt(3) - 1;
        boolean yes = random.nextBoolean();
        switch (random.nextInt(28)) {
            case 0 -> due("scene " + scene + " " + what % 8, foot.scene(scene, what % 8), model.scene(scene, what % 8));
            case 1 -> due("watcher " + one + " " + what % 7, foot.watcher(one, what % 7), model.watcher(one, what % 7));
            case 2 -> due("thinks " + one + " " + thing, foot.thinks(one, thing), model.thinks(one, thing));
            case 3 -> due("judged " + what % 4, foot.judged(what % 4), model.judged(what % 4));
            case 4 -> due("end " + one + " " + thing, foot.end(one, thing), model.end(one, thing));
            case 5 -> due("first " + what % 3, foot.first(what % 3), model.first(what % 3));
            case 6 -> due("forge " + one + " " + thing + " " + yes, foot.forge(one, thing, yes), model.forge(one, thing, yes));
            case 7 -> due("spare " + one, foot.spare(one), model.spare(one));
            case 8 -> due("takes " + one + " " + scene, foot.takes(one, scene), model.takes(one, scene));
            case 9 -> due("blank " + one, foot.blank(one), model.blank(one));
            case 10 -> due("mentions " + thing + " " + what % 3, foot.mentions(thing, what % 3), model.mentions(thing, what % 3));
            case 11 -> due("fooled " + thing, foot.fooled(thing), model.fooled(thing));
            case 12 -> due("sway", foot.sway(), model.sway());
            case 13 -> due("quarrels", foot.quarrels(), model.quarrels());
            case 14 -> due("couples", foot.couples(), model.couples());
            case 15 -> due("sets " + what % 4, foot.sets(what % 4), model.sets(what % 4));
            case 16 -> due("ask", foot.ask(), model.ask());
            case 17 -> due("clashes", foot.clashes(), model.clashes());
            case 18 -> due("wavers " + one, foot.wavers(one), model.wavers(one));
            case 19 -> due("lone " + one, foot.lone(one), model.lone(one));
            case 20 -> due("moves", foot.moves(), model.moves());
            case 21 -> due("agree", foot.agree(), model.agree());
            case 22 -> due("chance " + one + " " + thing + " " + what, foot.chance(one, thing, what), model.chance(one, thing, what));
            case 23 -> due("who " + thing + " " + is, foot.who(thing, is), model.who(thing, is));
            case 24 -> rests();
            case 25 -> years();
            default -> due("count " + what, foot.count(what), model.count(what));
        }
    }

    private void years() {
        int seed = random.nextInt(40) == 0 ? random.nextInt(30000) - 10000 : random.nextInt(10000);
        int steps = random.nextInt(40) == 0 ? random.nextInt(300) - 100 : 1 + random.nextInt(99);
        int what = what(3);
        due("years " + seed + " " + steps + " " + what, foot.years(seed, steps, what), model.years(seed, steps, what));
    }

    private void rests() {
        int let = random.nextInt(12) - 1;
        int cuts = random.nextInt(12) - 1;
        int lose = random.nextInt(4) == 0 ? random.nextInt(12) - 1 : 0;
        int what = random.nextInt(6) - 2;
        int want;
        int got;
        try {
            want = model.rests(let, cuts, lose, what);
        } catch (NoSuchElementException none) {
            want = -99;
        }
        try {
            got = foot.rests(let, cuts, lose, what);
        } catch (NoSuchElementException none) {
            got = -99;
        }
        due("rests " + let + " " + cuts + " " + lose + " " + what, got, want);
    }
}
