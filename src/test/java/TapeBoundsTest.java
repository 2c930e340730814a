/** Terms 1, promises 1 and 2: each sentence that names a bound of the TAPE, of signs and of tokens. */
public final class TapeBoundsTest {
    private static final String FILM = "thing a ; scene a yes under a no ; watcher v ear trust 1 walks 9 ; watcher w eye trust 1 walks 9 ;";
    private static final long BLANKS = 0x2020202020202020L;

    public static void main(String[] args) {
        atFirstNothing();
        thousandSigns();
        beyondThousandIsLeftOut();
        signsOfTheTape();
        othersAreLeftOut();
        upTo24();
        highestFirst();
        behindTheTape();
        whatReadsItTakesIt();
        asLongAsCanBe();
        blanksWhereOneLikes();
        words();
        longerWords();
        numbers();
        longerNumbers();
        letterRightBehind();
        signs();
        allElseIsNone();
        Check.end();
    }

    private static void atFirstNothing() {
        Check.sentence("At first: nothing.");
        FilmFoot foot = new FilmFoot();
        for (int what = 0; what <= 12; what++) {
            Check.due("count(" + what + ")", foot.count(what), what == 8 ? 8 : 0);
        }
        Check.due("scene(0, 0)", foot.scene(0, 0), -2);
        Check.due("watcher(0, 0)", foot.watcher(0, 0), -1);
        Check.due("thinks(0, 0)", foot.thinks(0, 0), -2);
        Check.due("undo()", foot.undo(), false);
        Check.due("judged(0)", foot.judged(0), -1);
        Check.due("judged(1)", foot.judged(1), -1);
        Check.due("judged(2)", foot.judged(2), 0);
        for (int mark = 0; mark < 4; mark++) {
            Check.due("mark(" + mark + ", true)", foot.mark(mark, true), false);
        }
        Check.due("film() of an empty TAPE", foot.film(), 0);
        Check.due("evening() of an empty TAPE", foot.evening(), 0);
    }

    /** An object with so many signs on the TAPE: blanks, and a text behind them. */
    private static FilmFoot filled(int signs, String text) {
        FilmFoot foot = new FilmFoot();
        Check.feed(foot, " ".repeat(signs - text.length()) + text);
        return foot;
    }

    private static void thousandSigns() {
        Check.sentence("The TAPE has at most 1,000 signs");
        Check.due("999 signs", filled(999, "").count(12), 999);
        Check.due("1,000 signs", filled(1000, "").count(12), 1000);
        Check.due("1,001 signs", filled(1001, "").count(12), 1000);
        Check.due("the 1,000th sign is read", filled(1000, "thing a ;").film(), 0);
        Check.due("the 1,000th sign is wrong", filled(1000, "?").film(), 1 + 16 * 999);
    }

    private static void beyondThousandIsLeftOut() {
        Check.sentence("others than 10 and 32 .. 126, and what is beyond 1,000, are left out: how many there are");
        Check.due("a text that ends beyond", filled(1001, "thing a ;").film(), 1 + 16 * 1000);
        Check.due("a wrong sign beyond", filled(1001, "?").film(), 0);
        FilmFoot foot = filled(990, "");
        Check.due("24 signs on 990", foot.feed(BLANKS, BLANKS, BLANKS), 1000);
        Check.due("24 signs on 1,000", foot.feed(BLANKS, BLANKS, BLANKS), 1000);
        Check.due("none on 1,000", foot.feed(0, 0, 0), 1000);
        FilmFoot one = filled(999, "");
        Check.due("others take no place of the 1,000", one.feed(0x7f_00ffL, -1L, 0x2100L), 1000);
        Check.due("and the sign stands there", one.film(), 1 + 16 * 999);
        FilmFoot parts = filled(992, "");
        Check.due("a full, b and c beyond", parts.feed(BLANKS, 0x2121212121212121L, -1L), 1000);
        Check.due("nothing of b", parts.film(), 0);
    }

    private static void signsOfTheTape() {
        Check.sentence("The TAPE has at most 1,000 signs, 10 and 32 .. 126");
        int[] on = {10, 32, 33, 125, 126};
        for (int sign : on) {
            Check.due("sign " + sign, new FilmFoot().feed(0, 0, sign), 1);
        }
    }

    private static void othersAreLeftOut() {
        Check.sentence("others than 10 and 32 .. 126, and what is beyond 1,000, are left out");
        int[] off = {0, 1, 9, 11, 12, 13, 31, 127, 128, 138, 160, 255};
        for (int sign : off) {
            Check.due("sign " + sign, new FilmFoot().feed(0, 0, sign), 0);
            FilmFoot foot = new FilmFoot();
            foot.feed(((long) 't' << 8 | sign) << 48, 0, 0);
            Check.feed(foot, "hing a ;");
            Check.due("film() amid whose first WORD " + sign + " came", foot.film(), 0);
        }
    }

    private static void upTo24() {
        Check.sentence("Up to 24 signs come behind the TAPE");
        FilmFoot foot = new FilmFoot();
        Check.due("none", foot.feed(0, 0, 0), 0);
        Check.due("one", foot.feed(0, 0x2000000000000000L, 0), 1);
        Check.due("24", foot.feed(BLANKS, BLANKS, BLANKS), 25);
        Check.due("all bits", foot.feed(-1, -1, -1), 25);
        Check.due("the least of longs", foot.feed(Long.MIN_VALUE, Long.MIN_VALUE, Long.MIN_VALUE), 25);
        Check.due("the greatest of longs", foot.feed(Long.MAX_VALUE, Long.MAX_VALUE, Long.MAX_VALUE), 25);
    }

    private static void highestFirst() {
        Check.sentence("the bytes of a, b, c, of each the highest first");
        FilmFoot foot = new FilmFoot();
        foot.feed(0x7468696e67206162L, 0x636465666768203bL, 0x73746172_20_33_3bL);
        Check.due("thing abcdefgh ;star 3;", foot.film(), 0);
        Check.due("its star", foot.count(8), 3);
        Check.due("its NAME", Check.film(foot, "?") + foot.count(0), 1 + 1);
        Check.due("read as told", Check.evening(foot, "write 0 abcdefgh yes ;"), 0);
    }

    private static void behindTheTape() {
        Check.sentence("come behind the TAPE");
        FilmFoot foot = new FilmFoot();
        foot.feed(0, 0, 's');
        foot.feed('t', 0, 0);
        foot.feed(0, 'a', 'r');
        foot.feed(0, 0, 0x34_3bL);
        Check.due("signs of four feeds", foot.count(12), 6);
        Check.due("star4;", foot.film(), 0);
        Check.due("star", foot.count(8), 4);
    }

    private static void whatReadsItTakesIt() {
        Check.sentence("what reads it takes it: it is empty then");
        FilmFoot foot = new FilmFoot();
        Check.film(foot, FILM);
        Check.due("behind a FILM", foot.count(12), 0);
        Check.film(foot, FILM + "?");
        Check.due("behind a FILM's FAULT", foot.count(12), 0);
        Check.evening(foot, "show ;");
        Check.due("behind an EVENING", foot.count(12), 0);
        Check.evening(foot, "show ; ?");
        Check.due("behind an EVENING's FAULT", foot.count(12), 0);
        Check.due("nothing is read twice", foot.evening() + foot.count(9), 0);
        Check.feed(foot, "show ;");
        foot.show();
        foot.judged(0);
        foot.undo();
        Check.due("what does not read it leaves it", foot.count(12), 6);
    }

    private static void asLongAsCanBe() {
        Check.sentence("TOKENS, each as long as can be");
        Check.filmFault(1, "@thinga ;");
        Check.filmFault(1, "thing a ; scene a @yesunder a no ;");
        Check.filmFault(4, "star @10 ;");
        Check.filmFault(3, "thing ab ; thing a ; thing b ; thing @ab ;");
        Check.filmFault(1, "doubts @notodd ;");
        Check.foot("thing thingx ; thing nota ; thing eary ; thing no1y ;".replace("1", "t"));
    }

    private static void blanksWhereOneLikes() {
        Check.sentence("blanks (10, 32) between where one likes");
        Check.foot("thing a;scene a yes under a no;watcher v ear trust 0walks 1;star 8;doubts((clash)*2<3)+not(odd);");
        Check.foot("\n  thing\na\n\n;  \n scene \n a\nyes  under\na no\n; star\n8\n;\n\n");
        Check.foot("star8;");
        Check.filmFault(1, "@thi ng a ;");
        Check.filmFault(1, "star 1 @0 ;");
        Check.filmFault(1, "thing a @b ;");
    }

    private static void words() {
        Check.sentence("WORDS (letters a .. z, 8 at most)");
        Check.foot("thing a ; thing z ; thing aaaaaaaa ; thing zzzzzzzz ; watcher azazazaz ear trust 0 walks 1 ;");
        Check.filmFault(1, "thing @abcdefghi ;");
        Check.filmFault(1, "thing @zzzzzzzzz ;");
        Check.filmFault(1, "thing @A ;");
        Check.filmFault(1, "thing @Z ;");
        Check.filmFault(1, "thing @` ;");
        Check.filmFault(1, "thing @{ ;");
        Check.filmFault(1, "thing @_ ;");
        Check.filmFault(1, "thing a@B ;");
    }

    private static void longerWords() {
        Check.sentence("All else (a longer WORD or NUMBER, too, at its first sign) is none");
        Check.filmFault(1, "@doubtsabc 1 ;");
        Check.filmFault(1, "@thingthing a ;");
        Check.filmFault(1, "thing @aaaaaaaathing ;");
        Check.filmFault(1, "doubts @seenseens ;");
        Check.filmFault(1, "@" + "thing".repeat(200));
        Check.filmFault(1, "thing @" + "a".repeat(990) + " ;");
        Check.eveningFault(FILM, 1, "@showagain ;");
        Check.eveningFault(FILM, 1, "write 0 @aaaaaaaaa yes ;");
        Check.eveningFault(FILM, 1, "talk @vvvvvvvvv w ;");
    }

    private static void numbers() {
        Check.sentence("NUMBERS (1 to 4 digits");
        Check.foot("star 8 ;");
        Check.foot("star 08 ;");
        Check.foot("star 008 ;");
        Check.foot("star 0008 ;");
        Check.foot("doubts 9999 ;");
        Check.filmFault(4, "star @9999 ;");
        Check.filmFault(1, "star @/ ;");
        Check.filmFault(1, "star @: ;");
    }

    private static void longerNumbers() {
        Check.sentence("a longer WORD or NUMBER, too, at its first sign");
        Check.filmFault(1, "star @00008 ;");
        Check.filmFault(1, "star @10000 ;");
        Check.filmFault(1, "doubts @12345 ;");
        Check.filmFault(1, "doubts 1 + @99999999999999999999 ;");
        Check.filmFault(1, "watcher v ear trust @00001walks 1 ;");
        Check.filmFault(1, "watcher v ear trust 1 walks @4294967297 ;");
        Check.eveningFault(FILM, 1, "cut @00000 ;");
        Check.eveningFault(FILM, 1, "write @00001a yes ;");
    }

    private static void letterRightBehind() {
        Check.sentence("a letter may stand right behind");
        Check.foot("watcher v ear trust 3walks 4;");
        Check.foot("doubts 1and 2or 3;");
        FilmFoot foot = Check.foot(FILM);
        Check.due("write 0a yes;", Check.evening(foot, "write 0a yes;"), 0);
        Check.filmFault(1, "thing a@1 ;");
        Check.filmFault(1, "watcher v ear trust 3 @4walks 4;");
    }

    private static void signs() {
        Check.sentence("the signs ( ) < = + - * ;");
        for (char sign : "<=+-*".toCharArray()) {
            Check.foot("doubts 1" + sign + "1;");
        }
        Check.foot("doubts (1);");
        Check.foot("star 0;");
        Check.filmFault(1, "doubts 1 @( 1 ;");
        Check.filmFault(1, "doubts 1 @) 1 ;");
        Check.filmFault(1, "doubts 1 ; @; ");
        Check.filmFault(1, "doubts 1 <@= 1 ;");
    }

    private static void allElseIsNone() {
        Check.sentence("All else (a longer WORD or NUMBER, too, at its first sign) is none.");
        for (char sign = 33; sign <= 126; sign++) {
            boolean token = "()<=+-*;".indexOf(sign) >= 0 || sign >= '0' && sign <= '9' || sign >= 'a' && sign <= 'z';
            if (!token) {
                FilmFoot foot = new FilmFoot();
                Check.due("film() of star 0" + sign + ";", Check.film(foot, "star 0" + sign + ";"), 1 + 16 * 6);
                Check.due("film() of star 0;" + sign, Check.film(foot, "star 0;" + sign), 1 + 16 * 7);
                Check.due("evening() of show" + sign + ";", Check.evening(foot, "show" + sign + ";"), 1 + 16 * 4);
            }
        }
    }
}
