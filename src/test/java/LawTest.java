/** Promises 3 and 8: the law of doubt, told by FILMS and seen in what a SHOW adds to doubt. */
public final class LawTest {
    private static final String HEAD = "thing a ; scene a yes under a no ; scene a no under a yes ; scene a no under a no ;"
        + "watcher w eye trust 7 walks 30 ; ";

    public static void main(String[] args) {
        values();
        facts();
        cutFacts();
        withoutLaw();
        everyWatcher();
        Check.end();
    }

    /** Of the first SCENE: clash 1, belief 7, odd 0, seen 0. */
    private static void law(String law, int doubt) {
        FilmFoot foot = Check.foot(HEAD + "doubts " + law + " ;");
        foot.show();
        Check.due("doubt by " + law, foot.watcher(0, 3), doubt);
    }

    private static void values() {
        law("0", 0);
        law("9", 9);
        law("10", 9);
        law("0 - 1", 0);
        law("9999", 9);
        law("0003", 3);
        law("1 + 2 * 3", 7);
        law("2 * 3 + 1", 7);
        law("9 - 2 - 3", 4);
        law("9 - 2 + 1", 8);
        law("( 1 + 2 ) * 3", 9);
        law("9 - ( 2 + 3 )", 4);
        law("2 * 2 * 2", 8);
        law("1 < 2", 1);
        law("2 < 2", 0);
        law("2 < 1", 0);
        law("2 = 2", 1);
        law("2 = 3", 0);
        law("0 - 3 < 2", 1);
        law("2 < 0 - 3", 0);
        law("1 + 2 = 3", 1);
        law("2 - 1 < 2 * 1", 1);
        law("not 0", 1);
        law("not 5", 0);
        law("not not 5", 1);
        law("not 0 + 4", 5);
        law("not ( 0 + 4 )", 0);
        law("not 0 * 3", 3);
        law("1 or 0 and 0", 0);
        law("0 and 0 or 1", 1);
        law("0 and ( 0 or 1 )", 0);
        law("5 and 6", 1);
        law("5 and 0", 0);
        law("0 and 5", 0);
        law("3 or 0", 1);
        law("0 or 3", 1);
        law("0 or 0", 0);
        law("2 and 1 < 2", 1);
        law("1 < 2 and 3 < 3", 0);
        law("( 1 and 1 ) + 3", 4);
        law("256 * 256 * 256 * 128", 0);
        law("256 * 256 * 256 * 128 < 0", 1);
        law("256 * 256 * 256 * 256 + 3", 3);
        law("256 * 256 * 256 * 128 - 1", 9);
        law("0 - 256 * 256 * 256 * 128 < 0", 1);
        law("((((2)))) * ((((3))))", 6);
        law("1 + (2 * (1 + (0 + (1)) * 2) - 3)", 4);
        String deep = "1 and 1 < 1 + 1 * ";
        law(deep + "(" + deep + "(" + deep + "(" + deep + "(" + deep + "1))))", 1);
        law(deep + "(" + deep + "(" + deep + "(" + deep + "(" + deep + "0))))", 0);
        StringBuilder ones = new StringBuilder("1");
        for (int more = 0; more < 420; more++) {
            ones.append(more < 415 ? "+0" : "+1");
        }
        law(ones.toString(), 6);
    }

    private static void facts() {
        law("clash", 1);
        law("belief", 7);
        law("odd", 0);
        law("seen", 0);
        law("clash * 2 - belief + 8", 3);
        FilmFoot foot = Check.foot(HEAD + "doubts seen + 3 * odd + 5 * clash ;");
        foot.show();
        Check.due("doubt of scene 0", foot.watcher(0, 3), 5);
        foot.show();
        Check.due("doubt of scene 1", foot.watcher(0, 3), 14);
        foot.show();
        Check.due("doubt of scene 2", foot.watcher(0, 3), 19);
        FilmFoot belief = Check.foot(HEAD.replace("trust 7", "trust 3") + "doubts belief ;");
        belief.show();
        Check.due("doubt by trust 3", belief.watcher(0, 3), 3);
    }

    /** A SCENE that is cut says nothing, so that there is no clash; the doubt comes all the same. */
    private static void cutFacts() {
        FilmFoot foot = Check.foot("thing a ; scene a yes under a no ; watcher w ear trust 7 walks 30 ; "
            + "watcher v eye trust 7 walks 30 ; doubts 2 + clash + odd ;");
        foot.show();
        foot.again();
        foot.cut(0);
        foot.write(0, 0, true);
        foot.show();
        Check.due("doubt of an ear", foot.watcher(0, 3), 5);
        Check.due("doubt of an eye", foot.watcher(1, 3), 6);
        FilmFoot other = Check.foot("thing a ; thing b ; scene a yes under b no ; watcher w ear trust 7 walks 30 ; "
            + "doubts 4 * clash + 1 ;");
        other.show();
        Check.due("two things are no clash", other.watcher(0, 3), 1);
    }

    private static void withoutLaw() {
        FilmFoot foot = Check.foot("thing a ; scene a yes under a no ; scene a no under a yes ; "
            + "watcher p ear trust 1 walks 30 ; watcher q eye trust 1 walks 30 ; "
            + "watcher r both trust 1 walks 30 ; watcher s child trust 1 walks 30 ; watcher t both trust 8 walks 30 ;");
        foot.show();
        int[] first = {0, 0, 2, 0, 2};
        for (int watcher = 0; watcher < 5; watcher++) {
            Check.due("doubt by scene 0 of " + watcher, foot.watcher(watcher, 3), first[watcher]);
        }
        foot.show();
        int[] second = {1, 1, 5, 0, 5};
        for (int watcher = 0; watcher < 5; watcher++) {
            Check.due("doubt by scene 1 of " + watcher, foot.watcher(watcher, 3), second[watcher]);
        }
        Check.due("doubt of all", foot.count(7), 12);
    }

    /** The law stands for all, though it is told ahead of them. */
    private static void everyWatcher() {
        FilmFoot foot = Check.foot("doubts belief ; watcher p ear trust 1 walks 30 ; thing a ; scene a yes under a no ; "
            + "watcher q child trust 9 walks 30 ; scene a yes under a no ; watcher r both trust 4 walks 30 ;");
        foot.show();
        foot.show();
        Check.due("doubt of p", foot.watcher(0, 3), 2);
        Check.due("doubt of q", foot.watcher(1, 3), 18);
        Check.due("doubt of r", foot.watcher(2, 3), 8);
    }
}
