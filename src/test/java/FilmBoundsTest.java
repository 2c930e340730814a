/** Terms 1, promises 3 and 4: each sentence that names a bound of FILMS, EVENINGS, NAMES and FAULTS. */
public final class FilmBoundsTest {
    private static final String THINGS = "thing a ; thing b ; thing c ; thing d ; thing e ; thing f ; ";
    private static final String SCENE = "scene a yes under a no ; ";
    private static final String WATCHERS = "watcher p ear trust 0 walks 1 ; watcher q eye trust 9 walks 30 ; watcher r both trust 4 walks 9 ; "
        + "watcher s child trust 5 walks 9 ; watcher t ear trust 1 walks 9 ; watcher u eye trust 1 walks 9 ; ";
    private static final String FILM = "thing a ; thing b ; " + SCENE + "watcher v ear trust 1 walks 1 ; watcher w eye trust 1 walks 9 ; ";
    private static final String KEPT = "thing scene yes no under watcher trust walks star doubts show write cut talk again "
        + "ear eye both child not and or";

    public static void main(String[] args) {
        anyNumberOfLines();
        sixThings();
        eightScenes();
        sixWatchers();
        numberedAsTold();
        yesOrNo();
        kinds();
        trustZeroToNine();
        walksOneToThirty();
        starZeroToEight();
        starOtherwiseEight();
        onceEach();
        anyNumberOfDeeds();
        fortyLines();
        sceneZeroToSeven();
        twoWatchers();
        keptWords();
        factsAsNames();
        namesAlike();
        theEnd();
        firstFromTheLeft();
        wrongTheLeast();
        cannotStand();
        nameOfNone();
        toldAlready();
        numberNotAsTold();
        oneTooMany();
        aFilmBeginsAnew();
        allMarksGo();
        anEveningIsTheEvening();
        allStaysByAFault();
        Check.end();
    }

    private static void evening(int kind, String text) {
        Check.eveningFault(FILM, kind, text);
    }

    private static void fineEvening(String text, int lines) {
        FilmFoot foot = Check.foot(FILM);
        Check.due("evening() of " + text, Check.evening(foot, text), 0);
        Check.due("lines of " + text, foot.count(9), lines);
    }

    private static void anyNumberOfLines() {
        Check.sentence("FILM: any number of");
        Check.foot("");
        Check.foot(" ");
        Check.foot("\n");
        Check.foot("star 0 ;");
        Check.foot("doubts 0 ;");
        Check.foot(WATCHERS + THINGS + SCENE.repeat(8) + "doubts 1 ; star 0 ;");
    }

    private static void sixThings() {
        Check.sentence("thing: 6 at most");
        Check.due("six", Check.foot(THINGS).count(0), 6);
        Check.filmFault(5, THINGS + "@thing g ;");
    }

    private static void eightScenes() {
        Check.sentence("scene: 8 at most");
        Check.due("eight", Check.foot("thing a ; " + SCENE.repeat(8)).count(1), 8);
        Check.filmFault(5, "thing a ; " + SCENE.repeat(8) + "@" + SCENE);
    }

    private static void sixWatchers() {
        Check.sentence("watcher: 6 at most");
        FilmFoot foot = Check.foot(WATCHERS);
        Check.due("six", foot.count(2), 6);
        Check.due("all in", foot.count(5), 63);
        Check.filmFault(5, WATCHERS + "@watcher v ear trust 1 walks 1 ;");
    }

    private static void numberedAsTold() {
        Check.sentence("numbered as told");
        FilmFoot foot = Check.foot("watcher z ear trust 7 walks 1 ; thing f ; thing e ; thing a ; scene a yes under e no ; watcher y eye trust 8 walks 2 ; "
            + "scene f no under a yes ; thing b ; scene b yes under f no ;");
        int[][] scenes = {{2, 1, 1, 0}, {0, 0, 2, 1}, {3, 1, 0, 0}};
        for (int scene = 0; scene < 3; scene++) {
            for (int what = 0; what < 4; what++) {
                Check.due("scene(" + scene + ", " + what + ")", foot.scene(scene, what), scenes[scene][what]);
            }
        }
        Check.due("trust of z", foot.watcher(0, 1), 7);
        Check.due("trust of y", foot.watcher(1, 1), 8);
        Check.due("no WATCHER more", foot.watcher(2, 1), -1);
    }

    private static void yesOrNo() {
        Check.sentence("IS: yes or no");
        Check.filmFault(1, "thing a ; scene a @not under a no ;");
        Check.filmFault(1, "thing a ; scene a @1 under a no ;");
        Check.filmFault(1, "thing a ; scene a yes under a @under ;");
        evening(1, "write 0 a @a ;");
    }

    private static void kinds() {
        Check.sentence("KIND: ear, eye, both, child");
        FilmFoot foot = Check.foot(WATCHERS);
        for (int watcher = 0; watcher < 4; watcher++) {
            Check.due("kind of " + watcher, foot.watcher(watcher, 0), watcher);
        }
        Check.filmFault(1, "watcher v @trust 1 walks 1 ;");
        Check.filmFault(1, "watcher v @ears trust 1 walks 1 ;");
        Check.filmFault(1, "watcher v @2 trust 1 walks 1 ;");
    }

    private static void trustZeroToNine() {
        Check.sentence("trust 0 to 9");
        FilmFoot foot = Check.foot(WATCHERS);
        Check.due("0", foot.watcher(0, 1), 0);
        Check.due("9", foot.watcher(1, 1), 9);
        Check.filmFault(4, "watcher v ear trust @10 walks 1 ;");
        Check.filmFault(1, "watcher v ear trust @- 1 walks 1 ;");
    }

    private static void walksOneToThirty() {
        Check.sentence("walks 1 to 30");
        FilmFoot foot = Check.foot(WATCHERS);
        Check.due("1", foot.watcher(0, 2), 1);
        Check.due("30", foot.watcher(1, 2), 30);
        Check.filmFault(4, "watcher v ear trust 1 walks @0 ;");
        Check.filmFault(4, "watcher v ear trust 1 walks @0000 ;");
        Check.filmFault(4, "watcher v ear trust 1 walks @31 ;");
    }

    private static void starZeroToEight() {
        Check.sentence("star: the SCENE (0 to 8)");
        Check.due("0", Check.foot("star 0 ;").count(8), 0);
        Check.due("8", Check.foot("star 8 ;").count(8), 8);
        Check.filmFault(4, "star @9 ;");
    }

    /** A star of an elder FILM, or of one with a FAULT, is none of this FILM. */
    private static void starOtherwiseEight() {
        Check.sentence("from which on players read below (8)");
        Check.due("no star", Check.foot("thing a ;").count(8), 8);
        FilmFoot foot = Check.foot("star 1 ;");
        Check.due("another star", Check.film(foot, "star 2 ;"), 0);
        Check.due("no star behind two", Check.film(foot, "") + foot.count(8), 8);
        Check.due("a star ahead of a FAULT", Check.film(foot, "star 3 ; ?"), 1 + 16 * 9);
        Check.due("no star behind that", Check.film(foot, "thing a ;") + foot.count(8), 8);
    }

    private static void onceEach() {
        Check.sentence("star, doubts: once each");
        Check.foot("star 1 ; doubts 1 ;");
        Check.foot("doubts 1 ; star 1 ;");
        Check.filmFault(3, "star 1 ; @star 1 ;");
        Check.filmFault(3, "star 1 ; thing a ; doubts 0 ; @star ?");
        Check.filmFault(3, "doubts 1 ; @doubts 1 ;");
        Check.filmFault(3, "doubts 1 ; star 1 ; @doubts ?");
        FilmFoot foot = Check.foot("star 1 ; doubts 1 ;");
        Check.due("once in each FILM", Check.film(foot, "star 1 ; doubts 1 ;"), 0);
    }

    private static void anyNumberOfDeeds() {
        Check.sentence("EVENING: any number of");
        fineEvening("", 0);
        fineEvening(" \n ", 0);
        fineEvening("show ;", 1);
        fineEvening("again;talk w v;cut 0;write 0 b no;show;show;", 6);
    }

    private static void fortyLines() {
        Check.sentence("40 lines at most");
        fineEvening("cut 7;".repeat(39), 39);
        fineEvening("cut 7;".repeat(40), 40);
        for (String line : new String[] {"show ;", "write 0 a yes ;", "cut 0 ;", "talk v w ;", "again ;"}) {
            evening(5, "cut 7;".repeat(40) + "@" + line);
        }
    }

    private static void sceneZeroToSeven() {
        Check.sentence("a SCENE 0 to 7");
        fineEvening("write 0 a yes ; write 7 a yes ; cut 0 ; cut 7 ;", 4);
        evening(4, "write @8 a yes ;");
        evening(4, "cut @8 ;");
    }

    private static void twoWatchers() {
        Check.sentence("two WATCHERS, not the same");
        fineEvening("talk v w ; talk w v ;", 2);
        evening(3, "talk v @v ;");
        evening(3, "talk w @w ;");
    }

    private static void keptWords() {
        Check.sentence("A NAME is another WORD than thing, scene, yes, no, under, watcher, trust, walks, star, doubts, show, write, cut, "
            + "talk, again, the KINDS, not, and, or");
        for (String word : KEPT.split(" ")) {
            Check.filmFault(1, "thing @" + word + " ;");
            Check.filmFault(1, "watcher @" + word + " ear trust 1 walks 1 ;");
            Check.filmFault(1, "scene @" + word + " yes under a no ;");
            Check.filmFault(1, "thing a ; scene a yes under @" + word + " no ;");
            evening(1, "write 0 @" + word + " yes ;");
            evening(1, "talk @" + word + " v ;");
            evening(1, "talk v @" + word + " ;");
        }
    }

    private static void factsAsNames() {
        Check.sentence("A NAME is another WORD than");
        Check.foot("thing clash ; thing belief ; watcher odd ear trust 1 walks 1 ; watcher seen eye trust 1 walks 1 ; "
            + "scene clash yes under belief no ; doubts clash + belief + odd + seen ;");
        Check.foot("thing film ; thing evening ; thing is ; thing kind ; thing x ; thing yess ;");
    }

    private static void namesAlike() {
        Check.sentence("no two (THINGS, WATCHERS) are alike");
        Check.filmFault(3, "thing a ; thing @a ;");
        Check.filmFault(3, "thing v ; watcher @v ear trust 1 walks 1 ;");
        Check.filmFault(3, "watcher v ear trust 1 walks 1 ; thing @v ;");
        Check.filmFault(3, "watcher v ear trust 1 walks 1 ; watcher @v ear trust 1 walks 1 ;");
        Check.filmFault(3, THINGS + "watcher @f ear trust 1 walks 1 ;");
        Check.filmFault(3, WATCHERS + "thing @u ;");
        Check.foot("thing a ; thing aa ; thing b ; thing bb ; thing ab ; thing ba ; watcher aaa ear trust 1 walks 1 ; watcher abb ear trust 1 walks 1 ;");
        Check.foot("thing athing ; thing thinga ; thing aaaaaaaa ; thing aaaaaaa ; thing aaaaaaab ; thing baaaaaaa ;");
    }

    private static void theEnd() {
        Check.sentence("the end being one at the text's length");
        String scene = "thing a ; scene a yes under a no ;";
        for (String text : new String[] {"thing", "thing x", scene.substring(0, 15), scene.substring(0, 17), scene.substring(0, 21),
            scene.substring(0, 27), scene.substring(0, 29), scene.substring(0, 32), "watcher", "watcher v", "watcher v child",
            "watcher v child trust", "watcher v child trust 1", "watcher v child trust 1 walks", "watcher v child trust 1 walks 1",
            "star", "star 1", "doubts", "doubts 1", "doubts 1 +", "doubts (", "doubts not", "doubts 1 and", "doubts ( 1"}) {
            Check.filmFault(1, text + "@");
            Check.filmFault(1, text + " \n @");
        }
        for (String text : new String[] {"show", "write", "write 0", "write 0 a", "write 0 a no", "cut", "cut 0", "talk", "talk v", "talk v w", "again"}) {
            evening(1, text + "@");
            evening(1, "show ; " + text + "  @");
        }
        FilmFoot foot = new FilmFoot();
        Check.feed(foot, " ".repeat(995) + "thing");
        Check.due("the end of a full TAPE", foot.film(), 1 + 16 * 1000);
    }

    private static void firstFromTheLeft() {
        Check.sentence("of the first token from the left that is wrong the least");
        Check.filmFault(4, "star @9 ? ; thing thing ;");
        Check.filmFault(2, "scene @a 1 ? ;");
        Check.filmFault(3, "thing a ; thing @a 12345 ;");
        Check.filmFault(1, "thing @1 ; star 9 ;");
        Check.filmFault(5, THINGS + "@thing thing a 9 ;");
        Check.filmFault(5, "doubts not not not not not @1 ? ;");
        evening(4, "write @8 x maybe ;");
        evening(2, "talk @x y z ;");
        evening(3, "talk v @v ? ;");
    }

    private static void wrongTheLeast() {
        Check.sentence("wrong the least");
        evening(1, "show ;".repeat(40) + "@thing");
        evening(1, "show ;".repeat(40) + "@x");
        evening(1, "show ;".repeat(40) + "@1");
        evening(1, "show ;".repeat(40) + "@?");
        evening(1, "show ;".repeat(40) + "@;");
        Check.filmFault(1, "doubts not not not not not @; ");
        Check.filmFault(1, "doubts ((((( @yes )))));");
        Check.filmFault(1, "doubts ((((( @12345 )))));");
        Check.filmFault(1, "star @12345 ;");
        evening(2, "talk @x x ;");
    }

    private static void cannotStand() {
        Check.sentence("1 it is none, or can't stand there");
        Check.filmFault(1, "@show ;");
        Check.filmFault(1, "thing a @scene a yes under a no ;");
        Check.filmFault(1, "thing a ; scene a yes @a no ;");
        Check.filmFault(1, "watcher v ear @walks 1 trust 1 ;");
        Check.filmFault(1, "star @x ;");
        evening(1, "@star 1 ;");
        evening(1, "show @0 ;");
        evening(1, "write @a yes 0 ;");
        evening(1, "cut @v ;");
        evening(1, "talk @0 1 ;");
        evening(1, "again @again ;");
    }

    private static void nameOfNone() {
        Check.sentence("2 a NAME of no THING (behind scene, under, write), of no WATCHER (behind talk, its second) told");
        String head = "thing a ; watcher v ear trust 1 walks 1 ; ";
        Check.filmFault(2, head + "scene @x yes under a no ;");
        Check.filmFault(2, head + "scene @v yes under a no ;");
        Check.filmFault(2, head + "scene a yes under @x no ;");
        Check.filmFault(2, head + "scene a yes under @v no ;");
        Check.filmFault(2, "scene @a yes under a no ; thing a ;");
        evening(2, "write 0 @x yes ;");
        evening(2, "write 0 @v yes ;");
        evening(2, "talk @x v ;");
        evening(2, "talk @a v ;");
        evening(2, "talk v @x ;");
        evening(2, "talk v @b ;");
        evening(2, "talk v @clash ;");
    }

    private static void toldAlready() {
        Check.sentence("3 a NAME told already; the second WATCHER of talk that is the first one; star, doubts a second time");
        Check.filmFault(3, "thing a ; thing b ; thing @a ;");
        Check.filmFault(3, "thing a ; watcher @a ear trust 1 walks 1 ;");
        evening(3, "talk w @w ;");
        Check.filmFault(3, "star 8 ; @star 8 ;");
        Check.filmFault(3, "doubts 0 ; @doubts 0 ;");
    }

    private static void numberNotAsTold() {
        Check.sentence("4 a NUMBER that is not as told");
        Check.filmFault(4, "watcher v ear trust @10 walks 0 ;");
        Check.filmFault(4, "watcher v ear trust 9 walks @31 ;");
        Check.filmFault(4, "watcher v ear trust 9 walks @0 ;");
        Check.filmFault(4, "star @9 ;");
        evening(4, "write @8 a yes ;");
        evening(4, "cut @9999 ;");
        Check.foot("doubts 9999 ;");
    }

    private static void oneTooMany() {
        Check.sentence("5 one too many: the words thing of a seventh, scene of a ninth, watcher of a seventh, the first word of a 41st line of an EVENING");
        Check.filmFault(5, THINGS + "@thing");
        Check.filmFault(5, THINGS + "star 1 ; @thing a ;");
        Check.filmFault(5, THINGS + SCENE.repeat(8) + "@scene");
        Check.filmFault(5, WATCHERS + "@watcher");
        evening(5, "again;".repeat(40) + "@show");
        evening(5, "again;".repeat(40) + "@talk x");
    }

    /** An object of which everything was done, told and marked that FILM lets. */
    private static FilmFoot used() {
        FilmFoot foot = Check.foot(FILM + "scene b yes under b no ; doubts 1 ;");
        Check.evening(foot, "show ; show ; again ;");
        foot.show();
        foot.cut(1);
        foot.show();
        foot.again();
        foot.write(0, 1, true);
        foot.show();
        foot.tell(1, 1, 0);
        for (int mark = 0; mark < 4; mark++) {
            foot.mark(mark, false);
        }
        return foot;
    }

    private static void aFilmBeginsAnew() {
        Check.sentence("ahead of SCENE 0, all WATCHERS in, nobody thinks anything, no doubt, no SCENE cut, written as told, no reissue, "
            + "no EVENING, nothing TOLD, nothing can be undone, no MARK is there");
        FilmFoot foot = used();
        int[] used = {2, 2, 2, 1, 1, 2, 2, 4, 8, 3, 1, 6, 0};
        int[] anew = {2, 2, 2, 0, 0, 3, 0, 0, 8, 0, 0, 0, 0};
        for (int what = 0; what < used.length; what++) {
            Check.due("used count(" + what + ")", foot.count(what), used[what]);
        }
        Check.due("the same FILM", Check.film(foot, FILM + "scene b yes under b no ; doubts 1 ;"), 0);
        for (int what = 0; what < anew.length; what++) {
            Check.due("anew count(" + what + ")", foot.count(what), anew[what]);
        }
        for (int view = 0; view < 4; view++) {
            Check.due("anew thinks " + view, foot.thinks(view / 2, view % 2), -1);
        }
        Check.due("anew doubt", foot.watcher(0, 3) + foot.watcher(1, 3), 0);
        Check.due("anew in", foot.watcher(0, 4) + foot.watcher(1, 4), 2);
        Check.due("anew written", foot.scene(0, 2) + foot.scene(0, 3), 0);
        Check.due("anew not cut", foot.scene(1, 4), 0);
        Check.due("anew not SHOWN", foot.scene(0, 5), 0);
        Check.due("anew undo", foot.undo(), false);
        Check.due("anew sets(0)", foot.sets(0), 4);
        Check.due("anew judged(2)", foot.judged(2), 2);
    }

    private static void allMarksGo() {
        Check.sentence("no MARK is there");
        FilmFoot foot = used();
        Check.film(foot, FILM);
        for (int mark = 0; mark < 4; mark++) {
            Check.due("mark(" + mark + ", true)", foot.mark(mark, true), false);
        }
    }

    private static void anEveningIsTheEvening() {
        Check.sentence("An EVENING is the EVENING");
        FilmFoot foot = used();
        Check.due("another EVENING", Check.evening(foot, "cut 0 ;"), 0);
        Check.due("its lines", foot.count(9), 1);
        Check.due("an empty EVENING", foot.evening(), 0);
        Check.due("no lines", foot.count(9), 0);
        int[] used = {2, 2, 2, 1, 1, 2, 2, 4, 8, 0, 1, 6, 0};
        for (int what = 0; what < used.length; what++) {
            Check.due("all else stays, count(" + what + ")", foot.count(what), used[what]);
        }
    }

    private static void allStaysByAFault() {
        Check.sentence("0, or its FAULT (all stays then)");
        FilmFoot foot = used();
        String faulty = "star 0 ; doubts 9 ; " + WATCHERS + "thing x ; scene x yes under x no ; thing";
        Check.due("a FILM with a FAULT at its end", Check.film(foot, faulty), 1 + 16 * faulty.length());
        Check.due("an EVENING with a FAULT at its end", Check.evening(foot, "again ; cut 0 ; show"), 1 + 16 * 20);
        int[] used = {2, 2, 2, 1, 1, 2, 2, 4, 8, 3, 1, 6, 0};
        for (int what = 0; what < used.length; what++) {
            Check.due("stays count(" + what + ")", foot.count(what), used[what]);
        }
        Check.due("stays thinks(1, 1)", foot.thinks(1, 1), 1);
        Check.due("stays judged(0)", foot.judged(0), -1);
        Check.due("stays judged(1)", foot.judged(1), 0);
        Check.due("the law stays", foot.show() + foot.watcher(1, 3), 4);
        Check.due("undo stays", foot.undo() && foot.undo(), true);
        Check.due("NAMES stay", Check.evening(foot, "talk v w ; write 0 b no ;"), 0);
        Check.due("NAMES with a FAULT are none", Check.evening(foot, "write 0 x yes ;"), 2 + 16 * 8);
        Check.due("MARKS stay", foot.mark(0, true) && foot.mark(3, true), true);
    }
}
