/** What every test needs: answers compared, texts put on the TAPE, and the exit code at last. */
final class Check {
    private static int wrong = 0;
    private static int made = 0;
    private static String sentence = "";

    private Check() {
    }

    /** The words of the document that the next answers are held against; they are printed with an answer that is not due. */
    static void sentence(String words) {
        sentence = "\"" + words + "\": ";
    }

    static void due(String call, long got, long want) {
        made++;
        if (got != want) {
            wrong++;
            System.out.println(sentence + call + " answered " + got + ", due is " + want);
        }
    }

    static void due(String call, boolean got, boolean want) {
        due(call, got ? 1 : 0, want ? 1 : 0);
    }

    /** Puts a text on the TAPE, 24 signs a call. */
    static void feed(FilmFoot foot, String text) {
        for (int at = 0; at < text.length(); at += 24) {
            foot.feed(eight(text, at), eight(text, at + 8), eight(text, at + 16));
        }
    }

    /** Eight signs of a text, the first one highest, behind the end 0. */
    static long eight(String text, int from) {
        long bytes = 0;
        for (int at = from; at < from + 8; at++) {
            bytes = bytes << 8 | (at < text.length() ? text.charAt(at) : 0);
        }
        return bytes;
    }

    static int film(FilmFoot foot, String text) {
        feed(foot, text);
        return foot.film();
    }

    static int evening(FilmFoot foot, String text) {
        feed(foot, text);
        return foot.evening();
    }

    /** A new object with this FILM, which is without a FAULT. */
    static FilmFoot foot(String text) {
        FilmFoot foot = new FilmFoot();
        due("film() of " + text, film(foot, text), 0);
        return foot;
    }

    /** The FAULT of a kind at the sign @ of a text, which is not read itself. */
    static int faultAt(String text, int kind) {
        return kind + 16 * text.indexOf('@');
    }

    /** A text with an @ at the token that is wrong, read as a FILM by a new object. */
    static void filmFault(int kind, String text) {
        due("film() of " + text, film(new FilmFoot(), text.replace("@", "")), faultAt(text, kind));
    }

    /** A text with an @ at the token that is wrong, read as an EVENING of this FILM. */
    static void eveningFault(String film, int kind, String text) {
        due("evening() of " + text, evening(foot(film), text.replace("@", "")), faultAt(text, kind));
    }

    static void end() {
        System.out.println(made + " answers, " + wrong + " not as due");
        if (wrong != 0) {
            System.exit(1);
        }
    }
}
