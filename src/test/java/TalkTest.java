/** Promises 22, 23, 24, 25, 31 and 33: who is FOOLED, SWAYS, QUARRELS, fits, is LONE, and when all AGREE. */
public final class TalkTest {
    private static final String THINGS = "thing a ; thing b ; ";

    public static void main(String[] args) {
        fooled();
        fooledOut();
        sway();
        swayMost();
        quarrels();
        couples();
        lone();
        agree();
        agreeLong();
        Check.end();
    }

    private static void fooled() {
        FilmFoot foot = Check.foot(THINGS + "scene a yes under a no ; scene b no under b no ; scene a no under b yes ; scene a yes under b yes ; "
            + "watcher v ear trust 1 walks 9 ; watcher u eye trust 1 walks 9 ; watcher t both trust 9 walks 9 ; watcher s child trust 9 walks 9 ; ");
        Check.due("nobody thinks yet", foot.fooled(0), 0);
        foot.show();
        Check.due("a is said yes at last", foot.fooled(0), 6);
        foot.cut(3);
        Check.due("a is said no at last", foot.fooled(0), 1);
        foot.cut(2);
        Check.due("a is said yes again", foot.fooled(0), 6);
        foot.show();
        Check.due("b is said no", foot.fooled(1), 0);
        foot.show();
        Check.due("b is read yes", foot.fooled(1), 6);
        Check.due("fooled(2)", foot.fooled(2), -1);
        Check.due("fooled(-1)", foot.fooled(-1), -1);
        FilmFoot none = Check.foot(THINGS + "scene a yes under b no ; scene a no under a yes ; watcher u eye trust 1 walks 9 ; star 1 ;");
        none.show();
        Check.due("b is not said", none.fooled(1), 0);
        none.show();
        Check.due("a is said last", none.fooled(0), 1);
        none.again();
        none.write(0, 0, true);
        Check.due("the star says what is written", none.fooled(0), 0);
    }

    private static void fooledOut() {
        FilmFoot foot = Check.foot(THINGS + "scene a yes under a no ; watcher u eye trust 1 walks 1 ; watcher t eye trust 1 walks 2 ; doubts 1 ;");
        foot.show();
        Check.due("one who is out is not fooled", foot.fooled(0), 2);
        Check.due("nobody is left to talk to", foot.sway(), -1);
    }

    private static void sway() {
        FilmFoot foot = Check.foot(THINGS + "scene a yes under a no ; scene b no under b no ; watcher v ear trust 4 walks 9 ; "
            + "watcher u eye trust 4 walks 9 ; watcher t child trust 4 walks 9 ; ");
        Check.due("nobody thinks", foot.sway(), -1);
        foot.show();
        Check.due("v to t, who thinks nothing", foot.sway(), 2);
        foot.talk(1, 2);
        Check.due("trust is too little", foot.sway(), -1);
        foot.show();
        Check.due("all think something", foot.sway(), -1);
        FilmFoot trust = Check.foot(THINGS + "scene a yes under a no ; watcher v ear trust 4 walks 9 ; watcher u eye trust 5 walks 9 ; watcher t eye trust 5 walks 9 ;");
        trust.show();
        Check.due("v to u", trust.sway(), 1);
        trust.talk(0, 1);
        Check.due("v to t", trust.sway(), 2);
        trust.talk(0, 2);
        Check.due("all alike", trust.sway(), -1);
        FilmFoot back = Check.foot(THINGS + "scene a yes under a no ; watcher v ear trust 5 walks 9 ; watcher u eye trust 4 walks 9 ;");
        back.show();
        Check.due("u to v", back.sway(), 8);
    }

    private static void swayMost() {
        FilmFoot foot = Check.foot("thing a ; thing b ; thing c ; scene a yes under a no ; scene b yes under c no ; "
            + "watcher v ear trust 1 walks 9 ; watcher u eye trust 9 walks 9 ; watcher t child trust 9 walks 9 ; watcher s child trust 9 walks 9 ; ");
        foot.show();
        foot.show();
        Check.due("two things, the first of them", foot.sway(), 1);
        foot.talk(0, 1);
        Check.due("three things by u", foot.sway(), 8 + 2);
        foot.talk(1, 2);
        Check.due("u to s", foot.sway(), 8 + 3);
        foot.talk(1, 3);
        Check.due("c to v", foot.sway(), 8);
        foot.talk(3, 0);
        Check.due("no more", foot.sway(), -1);
    }

    private static FilmFoot quarrelling() {
        return Check.foot(THINGS + "scene a yes under a no ; scene b no under b yes ; scene b yes under b yes ; watcher p ear trust 1 walks 9 ; "
            + "watcher q ear trust 1 walks 1 ; watcher r eye trust 1 walks 9 ; watcher s eye trust 1 walks 9 ; watcher t child trust 1 walks 9 ; "
            + "watcher o both trust 4 walks 9 ; doubts seen ;");
    }

    private static void quarrels() {
        FilmFoot foot = quarrelling();
        Check.due("no quarrel yet", foot.quarrels(), 0);
        foot.show();
        Check.due("three to two", foot.quarrels(), 6);
        foot.show();
        Check.due("a pair counts once, q is out", foot.quarrels(), 4);
        foot.show();
        Check.due("of a still", foot.quarrels(), 4);
        foot.again();
        foot.cut(0);
        foot.show();
        Check.due("o reads a cut one", foot.quarrels(), 3);
    }

    private static void couples() {
        FilmFoot foot = quarrelling();
        Check.due("six think nothing", foot.couples(), 3);
        foot.show();
        Check.due("three, two, one", foot.couples(), 2);
        foot.show();
        Check.due("two, two, one", foot.couples(), 2);
        foot.show();
        Check.due("again", foot.again(), 1);
        foot.cut(0);
        foot.show();
        Check.due("p alone, o no longer with him", foot.couples(), 1);
        Check.due("nobody", Check.foot(THINGS).couples(), 0);
        Check.due("one", Check.foot("watcher p ear trust 1 walks 9 ;").couples(), 0);
        Check.due("two, and no things", Check.foot("watcher p ear trust 1 walks 9 ; watcher q eye trust 1 walks 9 ;").couples(), 1);
        Check.due("no things, no quarrel", Check.foot("watcher p ear trust 1 walks 9 ; watcher q eye trust 1 walks 9 ;").quarrels(), 0);
    }

    private static void lone() {
        FilmFoot foot = Check.foot(THINGS + "scene a yes under a no ; scene b no under b no ; watcher p ear trust 1 walks 9 ; "
            + "watcher q eye trust 1 walks 9 ; watcher r eye trust 1 walks 2 ; watcher s child trust 1 walks 9 ; doubts 1 ;");
        Check.due("nothing", foot.lone(0), 0);
        foot.show();
        Check.due("p of a", foot.lone(0), 1);
        Check.due("q is with r", foot.lone(1), 0);
        Check.due("s thinks nothing", foot.lone(3), 0);
        foot.show();
        Check.due("p of a still, of b not", foot.lone(0), 1);
        Check.due("q of a, as r is out", foot.lone(1), 1);
        Check.due("r is out and thinks as q", foot.lone(2), 0);
        Check.due("lone(4)", foot.lone(4), -1);
        Check.due("lone(-1)", foot.lone(-1), -1);
        FilmFoot one = Check.foot(THINGS + "scene b yes under b yes ; scene a no under a no ; watcher p ear trust 1 walks 9 ;");
        one.show();
        Check.due("the only one", one.lone(0), 2);
        one.show();
        Check.due("of both", one.lone(0), 3);
    }

    private static void agree() {
        FilmFoot foot = Check.foot(THINGS + "scene a yes under a no ; watcher p ear trust 9 walks 9 ; watcher q eye trust 9 walks 9 ; watcher r child trust 1 walks 9 ;");
        Check.due("nobody thinks", foot.agree(), 0);
        foot.show();
        Check.due("one round", foot.agree(), 1);
        Check.due("nothing was talked", foot.thinks(1, 0), 0);
        Check.due("no film", new FilmFoot().agree(), 0);
        Check.due("one alone", Check.foot("watcher p ear trust 9 walks 9 ;").agree(), 0);
        FilmFoot firm = Check.foot(THINGS + "scene a yes under a no ; watcher p ear trust 4 walks 9 ; watcher q eye trust 4 walks 9 ;");
        firm.show();
        Check.due("two who are firm", firm.agree(), 0);
    }

    /** Each talks to the next one who is in, the last to the first: what the last tells the first goes round later. */
    private static void agreeLong() {
        FilmFoot foot = Check.foot(THINGS + "scene a yes under a no ; watcher p ear trust 9 walks 9 ; watcher q eye trust 1 walks 9 ; watcher r ear trust 9 walks 9 ;");
        foot.show();
        Check.due("p hears r, who heard q", foot.agree(), 1);
        FilmFoot two = Check.foot(THINGS + "scene a yes under a no ; watcher p ear trust 9 walks 9 ; watcher o ear trust 9 walks 9 ; watcher q eye trust 1 walks 9 ; watcher r ear trust 9 walks 9 ;");
        two.show();
        Check.due("o hears it a round later", two.agree(), 2);
        FilmFoot out = Check.foot(THINGS + "scene a yes under a no ; watcher p ear trust 1 walks 9 ; watcher o ear trust 9 walks 9 ; watcher q both trust 9 walks 2 ; watcher r eye trust 9 walks 9 ;");
        out.show();
        Check.due("q is out", out.count(5), 11);
        Check.due("o talks to r", out.agree(), 1);
    }
}
