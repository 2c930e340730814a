/** Promise 3: the TAPE read as a FILM, its FAULTS, and what a FILM begins anew. */
public final class FilmTest {
    private static final String WATCHER = "watcher w ear trust 1 walks 1 ; ";
    private static final String SCENE = "scene a yes under a no ; ";

    public static void main(String[] args) {
        films();
        cannotStand();
        names();
        numbers();
        tooMany();
        lawFaults();
        within();
        firstFaultCounts();
        told();
        beginsAnew();
        staysByFault();
        Check.end();
    }

    /** A text with an @ at the token that is wrong; the @ itself is not read. */
    private static void fault(int kind, String text) {
        FilmFoot foot = new FilmFoot();
        Check.due("film() of " + text, Check.film(foot, text.replace("@", "")), Check.faultAt(text, kind));
    }

    private static void fine(String text) {
        Check.foot(text);
    }

    private static void films() {
        fine("");
        fine(" \n ");
        fine("thing a;");
        fine("thing\na\n;\n");
        fine("thing abcdefgh ;");
        fine("thing clash ; thing belief ; thing odd ; thing seen ; thing film ; thing shown ;");
        fine("thing a;scene a yes under a no;watcher w ear trust 3walks 4;star 5;doubts 1;");
        fine("star 0 ; doubts 0 ; thing a ;");
        fine("star 8 ;");
        fine("watcher w child trust 0 walks 30 ; watcher v both trust 9 walks 1 ; watcher u eye trust 0009 walks 0030 ;");
        fine("thing a ; thing b ; thing c ; thing d ; thing e ; thing f ;");
        fine("thing a ; " + SCENE.repeat(8));
        fine("thing thingx ; thing thin ; thing things ;");
        fine("thing z ; thing azaz ; thing zzzzzzzz ; watcher za ear trust 0walks 9 ;");
    }

    private static void cannotStand() {
        fault(1, "@Thing a ;");
        fault(1, "@1");
        fault(1, "@;");
        fault(1, "@?");
        fault(1, "@thingthin a ;");
        fault(1, "@show ;");
        fault(1, "@a ;");
        fault(1, "thing@");
        fault(1, "thing @;");
        fault(1, "thing @1 ;");
        fault(1, "thing @abcdefghi ;");
        fault(1, "thing @A ;");
        fault(1, "thing a@");
        fault(1, "thing a \n @");
        fault(1, "thing a @a ;");
        fault(1, "thing a @1 ;");
        fault(1, "thing a@1 ;");
        fault(1, "thing a @: ;");
        fault(1, "thing @` ;");
        fault(1, "thing @{ ;");
        fault(1, "thing a@{ ;");
        fault(1, "star @/ ;");
        fault(1, "star @: ;");
        fault(1, "thing a ; @;");
        fault(1, "thing a ; scene @1");
        fault(1, "thing a ; scene@");
        fault(1, "thing a ; scene @yes");
        fault(1, "thing a ; scene a @a");
        fault(1, "thing a ; scene a @under");
        fault(1, "thing a ; scene a yes @a");
        fault(1, "thing a ; scene a yes @no");
        fault(1, "thing a ; scene a yes under @;");
        fault(1, "thing a ; scene a yes under @under");
        fault(1, "thing a ; scene a yes under a @;");
        fault(1, "thing a ; scene a yes under a no @thing");
        fault(1, "thing a ; scene a yes under a no@");
        fault(1, "watcher @4");
        fault(1, "watcher w @w");
        fault(1, "watcher w @trust");
        fault(1, "watcher w ear @walks");
        fault(1, "watcher w ear @3");
        fault(1, "watcher w ear trust @walks");
        fault(1, "watcher w ear trust @12345 walks 3 ;");
        fault(1, "watcher w ear trust 3 @5");
        fault(1, "watcher w ear trust 3 @trust");
        fault(1, "watcher w ear trust 3 walks @;");
        fault(1, "watcher w ear trust 3 walks 4@");
        fault(1, "watcher w ear trust 3 walks 4 @watcher");
        fault(1, "star @a ;");
        fault(1, "star @;");
        fault(1, "star @- 1 ;");
        fault(1, "star 3 @4");
        fault(1, "star 3@");
    }

    private static void names() {
        String kept = "thing scene yes no under watcher trust walks star doubts show write cut talk again "
            + "ear eye both child not and or";
        for (String word : kept.split(" ")) {
            fault(1, "thing @" + word + " ;");
            fault(1, "watcher @" + word + " ear");
            fault(1, "scene @" + word + " yes");
        }
        fault(2, "scene @a yes");
        fault(2, "thing a ; scene a yes under @b no ;");
        fault(2, WATCHER + "scene @w yes");
        fault(2, WATCHER + "thing a ; scene a yes under @w yes ;");
        fault(2, "thing abc ; scene @ab yes");
        fault(2, "thing abc ; scene @abcd yes");
        fault(3, "thing a ; thing @a ;");
        fault(3, WATCHER + "thing @w ;");
        fault(3, "thing a ; watcher @a eye");
        fault(3, WATCHER + "watcher @w eye");
        fault(3, "thing abcdefgh ; thing abcdefgi ; thing @abcdefgh");
        fault(3, "star 1 ; @star 1 ;");
        fault(3, "star 8 ; @star 8 ;");
        fault(3, "doubts 1 ; @doubts 1 ;");
        fine("star 1 ; doubts 1 ;");
    }

    private static void numbers() {
        fault(4, "watcher w ear trust @10 walks 1 ;");
        fault(4, "watcher w ear trust @9999 walks 1 ;");
        fault(4, "watcher w ear trust 1 walks @0 ;");
        fault(4, "watcher w ear trust 1 walks @31 ;");
        fault(4, "star @9 ;");
        fault(4, "star @10");
        fault(1, "star @00008 ;");
        fine("star 0008 ;");
    }

    private static void tooMany() {
        fault(5, "thing a ; thing b ; thing c ; thing d ; thing e ; thing f ; @thing");
        fault(5, "thing a ; thing b ; thing c ; thing d ; thing e ; thing f ; @thing a ;");
        fault(5, "thing a ; " + SCENE.repeat(8) + "@scene");
        fault(5, "thing a ; " + SCENE.repeat(8) + "@scene x");
        StringBuilder text = new StringBuilder();
        for (char name = 'p'; name <= 'u'; name++) {
            text.append("watcher ").append(name).append(" eye trust 2 walks 3 ; ");
        }
        fine(text.toString());
        fault(5, text + "@watcher");
        fine(text + "thing a ;");
    }

    private static void lawFaults() {
        fault(1, "doubts @;");
        fault(1, "doubts@");
        fault(1, "doubts 1@");
        fault(1, "doubts 1 @1 ;");
        fault(1, "doubts 1 @clash ;");
        fault(1, "doubts 1 @not 1 ;");
        fault(1, "doubts 1 + @;");
        fault(1, "doubts @+ 1 ;");
        fault(1, "doubts @- 1 ;");
        fault(1, "doubts 1 + @- 1 ;");
        fault(1, "doubts 1 * @* 1 ;");
        fault(1, "doubts ( @) ;");
        fault(1, "doubts ( 1 @;");
        fault(1, "doubts 1 @) ;");
        fault(1, "doubts ( 1 ) @) ;");
        fault(1, "doubts 1 < 2 @< 3 ;");
        fault(1, "doubts 1 < 2 @= 3 ;");
        fault(1, "doubts 1 = 2 @= 3 ;");
        fault(1, "doubts 1 = 2 @< 3 ;");
        fault(1, "doubts 1 < @and 3 ;");
        fault(1, "doubts 1 and @or 3 ;");
        fault(1, "doubts not @;");
        fault(1, "doubts not @and 1 ;");
        fault(1, "doubts @trust ;");
        fault(1, "doubts @yes ;");
        fault(1, "doubts @12345 ;");
        fault(1, "doubts @a ;");
        fault(1, "thing a ; doubts @a ;");
        fault(1, "doubts 1 @? 1 ;");
        fine("doubts 1 < 2 and 2 = 3 or not clash ;");
        fine("doubts ( 1 < 2 ) < ( 2 < 3 ) ;");
        fine("doubts 2*belief;");
    }

    private static void within() {
        fine("doubts ((((1)))) ;");
        fine("doubts ((((1)))) + ((((clash)))) ;");
        fine("doubts not not not not 1 ;");
        fine("doubts not ( not ( odd ) ) ;");
        fault(5, "doubts (((((@1))))) ;");
        fault(5, "doubts (((((@seen");
        fault(5, "doubts (((((@(");
        fault(5, "doubts (((((@not");
        fault(5, "doubts not not not not not @1 ;");
        fault(5, "doubts not not not not not @not 1 ;");
        fault(5, "doubts ( not ( not ( @1 ) ) ) ;");
        fault(5, "doubts 1 + ((((not @1");
        fault(5, "doubts ((((1 + not @1");
        fault(1, "doubts (((((@) ;");
        fault(1, "doubts (((((@and");
        fault(1, "doubts not not not not not@");
        fault(1, "doubts (((((@12345");
    }

    private static void firstFaultCounts() {
        fault(1, "thing a ; thing @yes ; thing a ; ?");
        fault(3, "thing a ; thing @a ? 12345 ;");
        fault(2, "scene @a ?");
        fault(4, "star @9 9 ;");
    }

    private static void told() {
        FilmFoot foot = Check.foot("watcher v child trust 2 walks 7 ; thing b ; thing a ; star 1 ; scene a no under b yes ; "
            + "scene b no under a yes ; watcher w both trust 9 walks 30 ; doubts 0 ;");
        Check.due("things", foot.count(0), 2);
        Check.due("scenes", foot.count(1), 2);
        Check.due("watchers", foot.count(2), 2);
        Check.due("star", foot.count(8), 1);
        Check.due("scene 0 says", foot.scene(0, 0), 1);
        Check.due("scene 0 is", foot.scene(0, 1), 0);
        Check.due("scene 0 writes", foot.scene(0, 2), 0);
        Check.due("scene 0 writes so", foot.scene(0, 3), 1);
        Check.due("kind of v", foot.watcher(0, 0), 3);
        Check.due("kind of w", foot.watcher(1, 0), 2);
        Check.due("trust of w", foot.watcher(1, 1), 9);
        Check.due("walks of w", foot.watcher(1, 2), 30);
        Check.due("a film without star", Check.film(foot, "thing a ;"), 0);
        Check.due("its star", foot.count(8), 8);
        Check.due("its scenes", foot.count(1), 0);
        Check.due("its watchers", foot.count(2), 0);
        String whole = "star 2 ; doubts 3 ; thing a ; scene a yes under a no ; watcher w both trust 9 walks 30 ;";
        for (int time = 1; time <= 3; time++) {
            Check.due("a film told once more", Check.film(foot, whole), 0);
            Check.due("a fault amid another one", Check.film(foot, "star 3 ; doubts 5 ; thing b ; thing a ; ?"), 1 + 16 * 40);
        }
        Check.due("its scene", foot.count(1), 1);
        Check.due("its law", foot.show() + 10 * foot.count(7), 30);
        Check.due("a film without law", Check.film(foot, whole.replace("doubts 3 ;", "")), 0);
        Check.due("its plain law", foot.show() + 10 * foot.count(7), 20);
        Check.due("a film of nothing", foot.film(), 0);
        Check.due("its things", foot.count(0), 0);
    }

    private static final String PAIR = "thing a ; scene a yes under a no ; scene a no under a no ; "
        + "watcher v ear trust 9 walks 1 ; watcher w both trust 9 walks 2 ; watcher u eye trust 9 walks 9 ; ";

    private static FilmFoot used() {
        FilmFoot foot = Check.foot(PAIR);
        Check.evening(foot, "show ; show ;");
        foot.cut(1);
        foot.show();
        foot.talk(0, 2);
        foot.show();
        foot.again();
        foot.write(0, 0, true);
        foot.tell(0, 0, 1);
        foot.mark(2, false);
        return foot;
    }

    private static void beginsAnew() {
        FilmFoot foot = used();
        Check.due("film again", Check.film(foot, PAIR), 0);
        int[] want = {1, 2, 3, 0, 0, 7, 0, 0, 8, 0, 0, 0, 0};
        for (int what = 0; what < want.length; what++) {
            Check.due("anew count(" + what + ")", foot.count(what), want[what]);
        }
        Check.due("anew thinks", foot.thinks(2, 0), -1);
        Check.due("anew written", foot.scene(0, 3), 0);
        Check.due("anew undo", foot.undo(), false);
        Check.due("anew mark", foot.mark(2, true), false);
        Check.due("anew sets", foot.sets(0), 4);
    }

    private static void staysByFault() {
        FilmFoot foot = used();
        Check.due("a faulty film", Check.film(foot, "thing x ; thing y ; star 1 ; watcher"), 1 + 16 * 36);
        int[] want = {1, 2, 3, 0, 1, 5, 2, 3, 8, 2, 1, 6, 0};
        for (int what = 0; what < want.length; what++) {
            Check.due("stays count(" + what + ")", foot.count(what), want[what]);
        }
        Check.due("stays thinks", foot.thinks(0, 0) + 10 * foot.thinks(2, 0), 1);
        Check.due("stays written", foot.scene(0, 3), 1);
        Check.due("stays mark", foot.mark(2, true), true);
        Check.due("names stay", Check.evening(foot, "talk v w ; write 0 a yes ;"), 0);
        Check.due("names of the faulty film are not told", Check.evening(foot, "write 0 x yes ;"), 2 + 16 * 8);
    }
}
