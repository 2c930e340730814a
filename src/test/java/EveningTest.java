/** Promises 4 and 14: the TAPE read as an EVENING, and the EVENING judged. */
public final class EveningTest {
    private static final String FILM = "thing a ; thing b ; scene a yes under a no ; scene b yes under b yes ; "
        + "watcher v ear trust 3 walks 9 ; watcher w both trust 9 walks 2 ; ";

    public static void main(String[] args) {
        evenings();
        faults();
        tooMany();
        withoutFilm();
        others();
        judged();
        eachDeed();
        fromTheBegin();
        Check.end();
    }

    private static void fault(int kind, String text) {
        FilmFoot foot = Check.foot(FILM);
        Check.evening(foot, "show ; show ; again ;");
        Check.due("evening() of " + text, Check.evening(foot, text.replace("@", "")), Check.faultAt(text, kind));
        Check.due("lines stay by " + text, foot.count(9), 3);
    }

    private static void fine(String text, int lines) {
        FilmFoot foot = Check.foot(FILM);
        Check.due("evening() of " + text, Check.evening(foot, text), 0);
        Check.due("lines of " + text, foot.count(9), lines);
    }

    private static void evenings() {
        fine("", 0);
        fine("\n", 0);
        fine("show;show;again;", 3);
        fine("write 0 b yes ; write 7 a no ; cut 0 ; cut 7 ; talk v w ; talk w v ; again ; show ;", 8);
        fine("write 0007b yes;", 1);
        fine("again ; ".repeat(40), 40);
        FilmFoot foot = Check.foot(FILM);
        for (int lines = 1; lines <= 30; lines += 7) {
            Check.due("a later evening", Check.evening(foot, "show ; ".repeat(lines)), 0);
            Check.due("its lines", foot.count(9), lines);
            Check.due("a fault amid another one", Check.evening(foot, "show ; ".repeat(20) + "thing"), 1 + 16 * 140);
            Check.due("the lines stay", foot.count(9), lines);
        }
    }

    private static void faults() {
        fault(1, "@film");
        fault(1, "@thing a ;");
        fault(1, "@1");
        fault(1, "@;");
        fault(1, "@Show ;");
        fault(1, "@shows ;");
        fault(1, "show@");
        fault(1, "show @show");
        fault(1, "show @1 ;");
        fault(1, "show ; @;");
        fault(1, "again @1");
        fault(1, "again@");
        fault(1, "write @a yes ;");
        fault(1, "write@");
        fault(4, "write @8 a yes ;");
        fault(4, "write @9999 a yes ;");
        fault(1, "write @12345 a yes ;");
        fault(1, "write 1 @yes");
        fault(1, "write 1 @2");
        fault(2, "write 1 @v yes ;");
        fault(2, "write 1 @c yes ;");
        fault(1, "write 1 a @a ;");
        fault(1, "write 1 a @;");
        fault(1, "write 1 a yes@");
        fault(1, "write 1 a yes @cut");
        fault(1, "cut @a ;");
        fault(4, "cut @8 ;");
        fault(1, "cut 1 @1");
        fault(1, "cut 7@");
        fault(2, "talk @a v ;");
        fault(2, "talk @c v ;");
        fault(1, "talk @show ;");
        fault(1, "talk @1 ;");
        fault(1, "talk v @;");
        fault(1, "talk v @talk");
        fault(2, "talk v @a ;");
        fault(2, "talk v @x ;");
        fault(3, "talk v @v ;");
        fault(3, "talk w @w");
        fault(1, "talk v w @v");
        fault(1, "talk v w@");
        fault(2, "talk @x x");
    }

    private static void tooMany() {
        fault(5, "show ; ".repeat(40) + "@show");
        fault(5, "show ; ".repeat(40) + "@write x");
        fault(5, "cut 0 ;".repeat(40) + "@again ;");
        fault(1, "show ; ".repeat(40) + "@scene");
        fault(1, "show ; ".repeat(40) + "@;");
        fault(1, "show ; ".repeat(39) + "show @;".replace(";", ""));
    }

    private static void withoutFilm() {
        FilmFoot foot = new FilmFoot();
        Check.due("no film, write", Check.evening(foot, "write 0 a yes ;"), 2 + 16 * 8);
        Check.due("no film, talk", Check.evening(foot, "talk a b ;"), 2 + 16 * 5);
        Check.due("no film, cut", Check.evening(foot, "cut 0 ; again ;"), 0);
        Check.due("no film, judged(0)", foot.judged(0), 0);
        Check.due("no film, judged(1)", foot.judged(1), -1);
        Check.due("no film, judged(2)", foot.judged(2), 0);
        Check.film(foot, FILM);
        Check.due("a film takes the evening away", foot.count(9), 0);
    }

    private static void others() {
        FilmFoot foot = Check.foot(FILM);
        Check.due("judged(-1)", foot.judged(-1), -2);
        Check.due("judged(3)", foot.judged(3), -2);
        Check.due("no evening, judged(0)", foot.judged(0), -1);
        Check.due("no evening, judged(1)", foot.judged(1), -1);
        Check.due("no evening, judged(2)", foot.judged(2), 2);
    }

    private static void judge(String text, int cannot, int walk, int in) {
        FilmFoot foot = Check.foot(FILM);
        Check.due("evening() of " + text, Check.evening(foot, text), 0);
        Check.due("judged(0) of " + text, foot.judged(0), cannot);
        Check.due("judged(1) of " + text, foot.judged(1), walk);
        Check.due("judged(2) of " + text, foot.judged(2), in);
    }

    /** w walks out by scene 0, which says a yes and writes a no. */
    private static void judged() {
        judge("", -1, -1, 2);
        judge("show ;", -1, 0, 1);
        judge("talk v w ; show ; show ;", -1, 1, 1);
        judge("show ; show ; show ; show ;", 2, 0, 1);
        judge("show ; again ; show ; again ;", 1, 0, 1);
        judge("write 0 a yes ; show ; show ;", -1, -1, 2);
        judge("cut 0 ; show ; show ; again ; show ;", -1, -1, 2);
        judge("show ; talk v w ; show ;", 1, 0, 1);
    }

    private static void eachDeed() {
        judge("cut 0 ; cut 0 ; cut 1 ;", 1, -1, 2);
        judge("cut 2 ;", 0, -1, 2);
        judge("cut 1 ; write 1 a yes ; write 2 a yes ;", 2, -1, 2);
        judge("cut 0 ; show ; write 0 b yes ; show ;", 2, -1, 2);
        judge("cut 0 ; show ; cut 0 ;", 2, -1, 2);
        judge("again ; show ;", 0, 1, 1);
        judge("cut 0 ; show ; show ; show ; again ; show ; write 0 a yes ; write 1 a yes ;", 3, -1, 2);
        judge("cut 0 ; write 1 a yes ; show ; show ; again ; write 0 a yes ; show ;", -1, -1, 2);
        judge("write 0 a yes ; write 1 b no ; show ; show ;", -1, 3, 1);
    }

    /** What was done by hand does not matter, and nothing is done by judging. */
    private static void fromTheBegin() {
        FilmFoot foot = Check.foot(FILM);
        Check.evening(foot, "show ; show ; show ;");
        foot.write(0, 1, true);
        foot.cut(1);
        foot.show();
        foot.show();
        Check.due("begin judged(0)", foot.judged(0), 2);
        Check.due("begin judged(1)", foot.judged(1), 0);
        Check.due("begin judged(2)", foot.judged(2), 1);
        Check.due("shown stays", foot.count(3), 2);
        Check.due("in stays", foot.count(5), 3);
        Check.due("undone stays", foot.count(11), 4);
        Check.due("a faulty evening", Check.evening(foot, "again ; again ; shown ;"), 1 + 16 * 16);
        Check.due("the elder one stays", foot.judged(0), 2);
        Check.due("a later one", Check.evening(foot, "again ;"), 0);
        Check.due("later judged(0)", foot.judged(0), 0);
        Check.due("later judged(2)", foot.judged(2), 2);
    }
}
