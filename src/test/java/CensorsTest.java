import java.util.NoSuchElementException;

/** Promise 36: CENSORS at rest. */
public final class CensorsTest {
    public static void main(String[] args) {
        rests(5, 3, 2, 0);
        rests(1, 4, 2, 1, 2);
        rests(4, 4, 2, 0, 1, 2);
        rests(4, 5, 0, 1, 2, 3);
        rests(0, 0, 0, 0, 1, 2, 3);
        rests(5, 5, 0, 0, 1, 2, 3);
        rests(9, 8, 0, 0, 3);
        rests(9, 9, 9, 0, 1, 2);
        rests(0, 9, 9, 1, 2);
        rests(9, 0, 0, 0, 3);
        none(10, 0, 0, -1);
        none(0, 10, 0, -1);
        none(0, 0, 10, -1);
        none(-1, 0, 0, -1);
        none(0, -1, 0, -1);
        none(0, 0, -1, -1);
        none(0, 0, -1, 0);
        none(5, 3, 2, -2);
        none(5, 3, 2, Integer.MIN_VALUE);
        none(5, 3, 2, Integer.MAX_VALUE);
        Check.end();
    }

    /** All the pairs of choices at rest, and none behind them. */
    private static void rests(int let, int cuts, int lose, int... pairs) {
        FilmFoot foot = new FilmFoot();
        String call = "rests(" + let + ", " + cuts + ", " + lose + ", ";
        Check.due(call + "-1)", foot.rests(let, cuts, lose, -1), pairs.length);
        for (int which = 0; which < pairs.length; which++) {
            Check.due(call + which + ")", foot.rests(let, cuts, lose, which), pairs[which]);
        }
        none(let, cuts, lose, pairs.length);
    }

    private static void none(int let, int cuts, int lose, int what) {
        FilmFoot foot = new FilmFoot();
        int thrown = 0;
        try {
            foot.rests(let, cuts, lose, what);
        } catch (NoSuchElementException none) {
            thrown = 1;
        }
        Check.due("rests(" + let + ", " + cuts + ", " + lose + ", " + what + ") throws", thrown, 1);
    }
}
