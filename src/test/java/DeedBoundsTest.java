/** Terms 2, promises 8 to 14 and 38: each sentence that names a bound of what SCENES say, of deeds, of UNDO and of MARKS. */
public final class DeedBoundsTest {
    private static final String FILM = "thing a;thing b;scene a yes under a no;scene b yes under b no;scene a no under b yes;"
        + "watcher p ear trust 4 walks 9;watcher q eye trust 5 walks 9;watcher r child trust 9 walks 9;";

    public static void main(String[] args) {
        fromTheStarOn();
        writtenLastAhead();
        asItIsWrittenThen();
        notWrittenAhead();
        cutSaysNothing();
        cutIsWrittenAllTheSame();
        aSceneMore();
        onlyWhoIsIn();
        trustBelowFive();
        writtenIfNothingIsSaid();
        childTakesWhatIsAlike();
        thinksWhatHeTook();
        asMuchDoubtAsWalks();
        forGood();
        writeBelowNotShown();
        writeAnother();
        cutNotShown();
        cutNotCut();
        talkOfWhoIsIn();
        talkTrustMoreThanFour();
        talkThoughtNothing();
        talkOfWhatOneThinks();
        talkCounts();
        againAllShown();
        againWhoWalkedOut();
        againStays();
        againCounts();
        undoAllOfThese();
        undoLastSixteen();
        undoOneByOne();
        undoNotWhatCannotBe();
        Check.end();
    }

    private static void says(FilmFoot foot, int scene, int thing, int is) {
        Check.due("scene(" + scene + ", 0)", foot.scene(scene, 0), thing);
        Check.due("scene(" + scene + ", 1)", foot.scene(scene, 1), is);
    }

    private static FilmFoot starred(int star) {
        return Check.foot("thing a;scene a yes under a no;scene a yes under a no;scene a yes under a no;star " + star + ";");
    }

    private static void fromTheStarOn() {
        Check.sentence("from the star's SCENE on it says of its THING what was written of that THING last");
        int[][] want = {{1, 0, 0}, {1, 0, 0}, {1, 1, 0}, {1, 1, 1}};
        for (int star = 0; star <= 3; star++) {
            FilmFoot foot = starred(star);
            for (int scene = 0; scene < 3; scene++) {
                says(foot, scene, 0, want[star][scene]);
            }
        }
        FilmFoot eight = Check.foot("thing a;" + "scene a yes under a no;".repeat(8) + "star 7;");
        says(eight, 6, 0, 1);
        says(eight, 7, 0, 0);
        says(Check.foot("thing a;" + "scene a yes under a no;".repeat(8)), 7, 0, 1);
    }

    private static void writtenLastAhead() {
        Check.sentence("what was written of that THING last, in a SCENE ahead of it");
        FilmFoot foot = Check.foot("thing a;thing b;scene b no under a no;scene b yes under a yes;scene b no under b no;scene a no under a no;"
            + "scene a yes under a no;star 3;");
        says(foot, 3, 0, 1);
        says(foot, 4, 0, 0);
        foot.write(1, 1, true);
        says(foot, 3, 0, 0);
        foot.write(3, 0, true);
        says(foot, 3, 0, 0);
        says(foot, 4, 0, 1);
    }

    private static void asItIsWrittenThen() {
        Check.sentence("(as it is written then)");
        FilmFoot foot = starred(1);
        says(foot, 1, 0, 0);
        foot.write(0, 0, true);
        says(foot, 1, 0, 1);
        foot.show();
        foot.undo();
        foot.undo();
        says(foot, 1, 0, 0);
        foot.show();
        foot.write(1, 0, true);
        says(foot, 2, 0, 1);
    }

    private static void notWrittenAhead() {
        Check.sentence("in a SCENE ahead of it (as it is written then), if it was");
        FilmFoot foot = Check.foot("thing a;thing b;scene a yes under a no;scene b yes under b no;scene b yes under a no;star 0;");
        says(foot, 0, 0, 1);
        says(foot, 1, 1, 1);
        says(foot, 2, 1, 0);
        foot.write(1, 0, false);
        says(foot, 2, 1, 1);
    }

    private static void cutSaysNothing() {
        Check.sentence("One that is cut says nothing");
        FilmFoot foot = starred(1);
        foot.cut(0);
        foot.cut(2);
        says(foot, 0, -1, -1);
        says(foot, 1, 0, 0);
        says(foot, 2, -1, -1);
        Check.due("nothing is said", foot.mentions(0, 0), 2);
        Check.due("and nothing clashes", foot.clashes(), 0);
    }

    private static void cutIsWrittenAllTheSame() {
        Check.sentence("it is written all the same");
        FilmFoot foot = starred(1);
        foot.cut(0);
        Check.due("THING written", foot.scene(0, 2), 0);
        Check.due("IS written", foot.scene(0, 3), 0);
        says(foot, 1, 0, 0);
        Check.due("it can be written", foot.write(0, 0, true), true);
        says(foot, 1, 0, 1);
        Check.due("all write of it", foot.mentions(0, 1), 7);
        FilmFoot eye = Check.foot(FILM);
        eye.cut(0);
        eye.show();
        Check.due("an eye takes it", eye.thinks(1, 0), 0);
    }

    private static void aSceneMore() {
        Check.sentence("SHOW, if there is a SCENE more");
        FilmFoot foot = Check.foot(FILM);
        for (int show = 0; show < 3; show++) {
            Check.due("show " + show, foot.show(), 0);
        }
        Check.due("no SCENE more", foot.show(), -1);
        Check.due("SHOWN", foot.count(3), 3);
        Check.due("nothing done", foot.count(11), 3);
        Check.due("without SCENES", Check.foot("thing a;watcher p ear trust 1 walks 1;").show(), -1);
        Check.due("without WATCHERS", Check.foot("thing a;scene a yes under a no;").show(), 0);
        FilmFoot eight = Check.foot("thing a;" + "scene a yes under a no;".repeat(8));
        for (int show = 0; show < 8; show++) {
            Check.due("of eight, show " + show, eight.show(), 0);
        }
        Check.due("no ninth", eight.show(), -1);
    }

    private static void onlyWhoIsIn() {
        Check.sentence("each WATCHER who is in");
        FilmFoot foot = Check.foot("thing a;scene a yes under a yes;scene a no under a no;watcher p ear trust 1 walks 1;watcher q ear trust 1 walks 9;doubts 1;");
        Check.due("p walks out", foot.show(), 1);
        Check.due("nobody more", foot.show(), 0);
        Check.due("p thinks still", foot.thinks(0, 0), 1);
        Check.due("p's doubt", foot.watcher(0, 3), 1);
        Check.due("q thinks", foot.thinks(1, 0), 0);
        Check.due("q's doubt", foot.watcher(1, 3), 2);
    }

    private static void trustBelowFive() {
        Check.sentence("one of both takes what is said, if trust is below 5, and what is written, else");
        for (int trust = 0; trust <= 9; trust++) {
            FilmFoot foot = Check.foot("thing a;thing b;scene a yes under b no;watcher p both trust " + trust + " walks 9;");
            Check.due("takes, trust " + trust, foot.takes(0, 0), trust < 5 ? 1 : 2);
            foot.show();
            Check.due("thinks a, trust " + trust, foot.thinks(0, 0), trust < 5 ? 1 : -1);
            Check.due("thinks b, trust " + trust, foot.thinks(0, 1), trust < 5 ? -1 : 0);
        }
    }

    private static void writtenIfNothingIsSaid() {
        Check.sentence("(what is written, too, if nothing is said)");
        for (int trust = 0; trust <= 9; trust++) {
            FilmFoot foot = Check.foot("thing a;thing b;scene a yes under b no;watcher p both trust " + trust + " walks 9;");
            foot.cut(0);
            Check.due("takes, trust " + trust, foot.takes(0, 0), 2);
            foot.show();
            Check.due("thinks b, trust " + trust, foot.thinks(0, 1), 0);
        }
    }

    private static void childTakesWhatIsAlike() {
        Check.sentence("a child takes what is said, if it is what is written (THING and IS), else nothing");
        FilmFoot foot = Check.foot("thing a;thing b;scene a yes under a yes;scene a yes under a no;scene a yes under b yes;scene a no under a no;"
            + "watcher p child trust 9 walks 9;");
        int[] want = {1, -1, -1, 0};
        for (int scene = 0; scene < 4; scene++) {
            Check.due("takes of " + scene, foot.takes(0, scene), want[scene]);
        }
        int[] thought = {1, 1, 1, 0};
        for (int scene = 0; scene < 4; scene++) {
            foot.show();
            Check.due("thinks a by " + scene, foot.thinks(0, 0), thought[scene]);
            Check.due("thinks b by " + scene, foot.thinks(0, 1), -1);
        }
        foot.again();
        foot.cut(0);
        Check.due("takes of a cut one", foot.takes(0, 0), -1);
    }

    private static void thinksWhatHeTook() {
        Check.sentence("then he THINKS what he took; with as much doubt as walks he walks out");
        FilmFoot foot = Check.foot("thing a;scene a yes under a no;watcher p ear trust 1 walks 1;watcher q eye trust 1 walks 1;doubts 1;");
        Check.due("both walk out", foot.show(), 3);
        Check.due("p took it", foot.thinks(0, 0), 1);
        Check.due("q took it", foot.thinks(1, 0), 0);
    }

    private static void asMuchDoubtAsWalks() {
        Check.sentence("with as much doubt as walks he walks out");
        FilmFoot foot = Check.foot("thing a;scene a yes under a no;scene a yes under a no;watcher p ear trust 1 walks 5;watcher q ear trust 1 walks 6;"
            + "watcher r ear trust 1 walks 4;watcher s ear trust 1 walks 10;watcher t ear trust 1 walks 11;doubts 5;");
        Check.due("5 of 5 and of 4", foot.show(), 1 + 4);
        Check.due("10 of 6 and of 10", foot.show(), 2 + 8);
        Check.due("10 of 11 is in", foot.count(5), 16);
    }

    private static void forGood() {
        Check.sentence("he walks out, for good");
        FilmFoot foot = Check.foot("thing a;scene a yes under a no;watcher p ear trust 1 walks 1;watcher q ear trust 1 walks 30;doubts 1;");
        foot.show();
        for (int time = 1; time <= 3; time++) {
            foot.again();
            Check.due("out behind reissue " + time, foot.watcher(0, 4), 0);
            Check.due("nobody more", foot.show(), 0);
            Check.due("doubt then", foot.watcher(0, 3), 1);
        }
    }

    private static void writeBelowNotShown() {
        Check.sentence("WRITE: another THING, IS, below a SCENE that was not SHOWN");
        FilmFoot foot = Check.foot(FILM);
        Check.due("the last one", foot.write(2, 0, true), true);
        Check.due("behind the last one", foot.write(3, 0, true), false);
        foot.show();
        Check.due("SHOWN", foot.write(0, 0, true), false);
        Check.due("the next one", foot.write(1, 0, true), true);
        foot.show();
        foot.show();
        Check.due("all SHOWN", foot.write(2, 0, true), false);
        foot.again();
        Check.due("behind a reissue", foot.write(0, 0, true), true);
    }

    private static void writeAnother() {
        Check.sentence("WRITE: true; false: others, SHOWN");
        FilmFoot foot = Check.foot(FILM);
        Check.due("another IS", foot.write(0, 0, true), true);
        Check.due("another THING", foot.write(0, 1, true), true);
        Check.due("the same", foot.write(0, 1, true), true);
        Check.due("all three are undone", foot.count(11), 3);
        foot.cut(0);
        Check.due("below a cut one", foot.write(0, 1, false), true);
        Check.due("the last THING", foot.scene(0, 2), 1);
        Check.due("and IS", foot.scene(0, 3), 0);
    }

    private static void cutNotShown() {
        Check.sentence("CUT: a SCENE that was not SHOWN");
        FilmFoot foot = Check.foot(FILM);
        Check.due("the last one", foot.cut(2), true);
        Check.due("behind the last one", foot.cut(3), false);
        foot.show();
        Check.due("SHOWN", foot.cut(0), false);
        Check.due("the next one", foot.cut(1), true);
        foot.show();
        foot.show();
        foot.again();
        Check.due("behind a reissue", foot.cut(0), true);
    }

    private static void cutNotCut() {
        Check.sentence("and is not cut");
        FilmFoot foot = Check.foot(FILM);
        foot.cut(1);
        Check.due("cut already", foot.cut(1), false);
        Check.due("nothing done", foot.count(11), 1);
        foot.undo();
        Check.due("not cut any more", foot.cut(1), true);
        foot.show();
        foot.show();
        foot.show();
        foot.again();
        Check.due("cut behind a reissue, too", foot.cut(1), false);
    }

    private static void talkOfWhoIsIn() {
        Check.sentence("TALK of one who is in to another one who is in");
        FilmFoot foot = Check.foot("thing a;scene a yes under a no;watcher p ear trust 1 walks 1;watcher q eye trust 9 walks 9;watcher r child trust 9 walks 9;doubts 1;");
        foot.show();
        Check.due("of one who is out", foot.talk(0, 1), -1);
        Check.due("to one who is out", foot.talk(1, 0), -1);
        Check.due("to oneself", foot.talk(1, 1), -1);
        Check.due("of one who is out to himself", foot.talk(0, 0), -1);
        Check.due("of one who is in to another one", foot.talk(1, 2), 1);
        Check.due("done", foot.count(11), 2);
    }

    private static void talkTrustMoreThanFour() {
        Check.sentence("if he has more trust than 4");
        for (int trust = 0; trust <= 9; trust++) {
            FilmFoot foot = Check.foot("thing a;scene a yes under a no;watcher p ear trust " + (9 - trust) + " walks 9;watcher q eye trust " + trust + " walks 9;");
            foot.show();
            Check.due("TALK to trust " + trust, foot.talk(0, 1), trust > 4 ? 1 : 0);
            Check.due("thought by trust " + trust, foot.thinks(1, 0), trust > 4 ? 1 : 0);
            Check.due("the first one's thought", foot.thinks(0, 0), 1);
        }
    }

    private static void talkThoughtNothing() {
        Check.sentence("or THOUGHT nothing of it");
        for (int trust = 0; trust <= 9; trust++) {
            FilmFoot foot = Check.foot("thing a;scene a yes under a no;watcher p eye trust 0 walks 9;watcher q child trust " + trust + " walks 9;");
            foot.show();
            Check.due("TALK to trust " + trust, foot.talk(0, 1), 1);
            Check.due("thought by trust " + trust, foot.thinks(1, 0), 0);
        }
    }

    private static void talkOfWhatOneThinks() {
        Check.sentence("this one THINKS of each THING of which the first one THINKS something that");
        FilmFoot foot = Check.foot("thing a;thing b;thing c;scene a yes under b no;scene c yes under c no;watcher p ear trust 9 walks 9;watcher q eye trust 9 walks 9;");
        Check.due("nothing THOUGHT", foot.talk(0, 1), 0);
        foot.show();
        foot.show();
        Check.due("two THINGS", foot.talk(0, 1), 2);
        int[] want = {1, 0, 1};
        for (int thing = 0; thing < 3; thing++) {
            Check.due("thinks(1, " + thing + ")", foot.thinks(1, thing), want[thing]);
        }
        Check.due("p THINKS nothing of b still", foot.thinks(0, 1), -1);
    }

    private static void talkCounts() {
        Check.sentence("TALK: how many THINGS the other one THINKS another way then");
        FilmFoot foot = Check.foot("thing a;thing b;thing c;thing d;thing e;thing f;scene a yes under a no;scene b yes under b no;scene c yes under c yes;scene d no under e no;"
            + "scene e no under f no;scene f yes under b yes;watcher p ear trust 9 walks 9;watcher q eye trust 9 walks 9;watcher r child trust 9 walks 9;watcher s child trust 9 walks 1;");
        for (int show = 0; show < 6; show++) {
            foot.show();
        }
        Check.due("a turned, d anew, f turned", foot.talk(0, 1), 3);
        Check.due("none of them twice", foot.talk(0, 1), 0);
        Check.due("all but c anew", foot.talk(1, 2), 5);
        Check.due("all the other way", foot.talk(2, 0), 0);
    }

    private static void againAllShown() {
        Check.sentence("AGAIN (all have been SHOWN)");
        FilmFoot foot = Check.foot(FILM);
        for (int show = 0; show < 3; show++) {
            Check.due("again behind " + show, foot.again(), -1);
            foot.show();
        }
        Check.due("nothing done", foot.count(11), 3);
        Check.due("all SHOWN", foot.again(), 1);
        Check.due("ahead of SCENE 0", foot.count(3), 0);
        Check.due("none SHOWN", foot.again(), -1);
        Check.due("no SCENES at all", new FilmFoot().again(), 1);
    }

    private static void againWhoWalkedOut() {
        Check.sentence("those who walked out stay out");
        FilmFoot foot = Check.foot("thing a;scene a yes under a no;watcher p ear trust 1 walks 1;watcher q eye trust 1 walks 2;doubts 1;");
        foot.show();
        foot.again();
        Check.due("p is out", foot.count(5), 2);
        foot.show();
        foot.again();
        Check.due("all are out", foot.count(5), 0);
        Check.due("a show to none", foot.show(), 0);
    }

    private static void againStays() {
        Check.sentence("what is THOUGHT, doubt, writing, cuts stay");
        FilmFoot foot = Check.foot(FILM);
        foot.write(0, 1, true);
        foot.cut(1);
        foot.show();
        foot.show();
        foot.show();
        int doubt = foot.count(7);
        foot.again();
        Check.due("p's THOUGHT", foot.thinks(0, 0), 0);
        Check.due("q's THOUGHT", foot.thinks(1, 1), 1);
        Check.due("doubt of p, and of q, who read b yes, no, yes", doubt, 1 + 2);
        Check.due("doubt", foot.count(7), doubt);
        Check.due("writing", foot.scene(0, 2) + foot.scene(0, 3), 2);
        Check.due("cuts", foot.count(6), 2);
    }

    private static void againCounts() {
        Check.sentence("one reissue more");
        FilmFoot foot = new FilmFoot();
        for (int time = 1; time <= 100; time++) {
            Check.due("again() " + time, foot.again(), time);
            Check.due("count(4)", foot.count(4), time);
        }
        foot.undo();
        Check.due("one reissue less", foot.count(4), 99);
    }

    private static void undoAllOfThese() {
        Check.sentence("UNDO: all of these");
        FilmFoot foot = Check.foot(FILM);
        foot.show();
        Check.due("a SHOW", foot.undo(), true);
        Check.due("not SHOWN", foot.count(3) + foot.count(7), 0);
        Check.due("nothing THOUGHT", foot.thinks(0, 0), -1);
        foot.write(2, 0, true);
        Check.due("a WRITE", foot.undo(), true);
        Check.due("as told", foot.scene(2, 2), 1);
        foot.cut(2);
        Check.due("a CUT", foot.undo(), true);
        Check.due("not cut", foot.count(6), 0);
        foot.show();
        foot.talk(0, 1);
        Check.due("a TALK", foot.undo(), true);
        Check.due("THOUGHT as ahead", foot.thinks(1, 0), 0);
        foot.talk(1, 0);
        Check.due("a TALK that turned nothing", foot.undo(), true);
        Check.due("no more than that", foot.count(11), 1);
        foot.show();
        foot.show();
        foot.again();
        Check.due("an AGAIN", foot.undo(), true);
        Check.due("all SHOWN", foot.count(3), 3);
        Check.due("no reissue", foot.count(4), 0);
        FilmFoot out = Check.foot("thing a;scene a yes under a no;watcher p ear trust 1 walks 1;doubts 1;");
        out.show();
        out.undo();
        Check.due("in again", out.count(5), 1);
    }

    private static void undoLastSixteen() {
        Check.sentence("UNDO: all of these, the last 16");
        for (int deeds = 15; deeds <= 33; deeds += deeds == 17 ? 15 : 1) {
            FilmFoot foot = new FilmFoot();
            for (int deed = 1; deed <= deeds; deed++) {
                foot.again();
                Check.due("what can be undone of " + deed, foot.count(11), Math.min(deed, 16));
            }
            int undone = 0;
            while (undone < 40 && foot.undo()) {
                undone++;
                Check.due("what can be undone then", foot.count(11), Math.min(deeds, 16) - undone);
            }
            Check.due("undone of " + deeds, undone, Math.min(deeds, 16));
            Check.due("reissues left of " + deeds, foot.count(4), Math.max(0, deeds - 16));
        }
    }

    private static void undoOneByOne() {
        Check.sentence("the last 16, one by one");
        FilmFoot foot = Check.foot(FILM);
        foot.write(0, 1, true);
        foot.write(0, 1, false);
        foot.write(0, 0, true);
        int[] want = {2, 3, 0};
        for (int undo = 0; undo < 3; undo++) {
            foot.undo();
            Check.due("written behind undo " + undo, 2 * foot.scene(0, 2) + foot.scene(0, 3), want[undo]);
        }
        foot.cut(0);
        foot.undo();
        foot.cut(1);
        Check.due("a deed behind an UNDO", foot.count(11), 1);
        foot.undo();
        Check.due("nothing can be", foot.undo(), false);
    }

    private static void undoNotWhatCannotBe() {
        Check.sentence("UNDO: true; false: nothing can be");
        FilmFoot foot = Check.foot(FILM);
        Check.due("at first", foot.undo(), false);
        foot.again();
        foot.talk(0, 0);
        foot.cut(3);
        foot.write(3, 0, true);
        Check.due("what can't be is not undone", foot.undo(), false);
        foot.tell(0, 0, 1);
        foot.mark(0, false);
        Check.evening(foot, "show;");
        Check.film(foot, "?");
        foot.judged(0);
        foot.years(1, 9, 0);
        Check.due("nor is what only tells and asks", foot.undo(), false);
        Check.due("TOLD stays", foot.count(10), 1);
        Check.due("the EVENING stays", foot.count(9), 1);
    }
}
