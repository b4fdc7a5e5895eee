/** Each promise by its number: ordinary inputs, the edges that the document names, wrong inputs. */
public final class PromisesTest {
    private static final int NONE = -1;
    private static final int VOID = -2147483648;
    private static String promise = "";

    public static void main(String[] args) {
        LookTimes fresh = new LookTimes();
        newObject(fresh);
        texts();
        faults();
        lawsInPlace();
        likes();
        screens();
        plansAndTrials();
        babies();
        gazes();
        crying();
        rules();
        leans();
        readings();
        lengths();
        reads();
        says();
        saysWorked();
        outs();
        leaves();
        differences();
        odds();
        afters();
        leavings();
        houses();
        spans();
        spreadsAndWorlds();
        manyWorlds();
        parts();
        nexts();
        freshOnes();
        settledOnes();
        aparts();
        books();
        images();
        plansBehindImages();
        statuses();
        counts();
        Check.close("PromisesTest");
    }

    private static void due(String what, long got, long want) {
        Check.due(promise + ": " + what, got, want);
    }

    private static void yes(String what, boolean got) {
        Check.yes(promise + ": " + what, got);
    }

    private static void no(String what, boolean got) {
        Check.no(promise + ": " + what, got);
    }

    private static void refusals(LookTimes x, int none, int room, int other) {
        due("refused, there is none such", x.status(0), none);
        due("refused, there is no room", x.status(1), room);
        due("refused, it can't be otherwise", x.status(2), other);
    }

    private static void newObject(LookTimes x) {
        promise = "1";
        for (int what = 0; what <= 6; what++) {
            due("count(" + what + ")", x.count(what), 0);
        }
        refusals(x, 0, 0, 0);
        due("kept()", x.kept(), NONE);
        due("row(0, NONE)", x.row(0, NONE), NONE);
        due("says", x.says(0, 0, 0, 20), NONE);
        due("NONE", LookTimes.NONE, -1);
        due("VOID", LookTimes.VOID, -2147483648L);
        // First values: W 20, MOST 600, LEAST 0, LEAN 0, READING 0, CAP 200, SPREAD 0, LONG 1, LIKED 0.
        LookTimes y = Scene.planned(1, 0);
        int baby = y.baby(0, 0, 20);
        y.gaze(baby, 0, 1);
        y.gaze(baby, 0, 19);
        y.gaze(baby, 0, 1);
        y.gaze(baby, 0, 20);
        y.gaze(baby, 0, 1);
        due("W is 20, LEAST 0", y.length(0, 0), 2);
        y.book(1);
        y.rule(20, 600, 0);
        y.reading(0, 200);
        y.lean(0);
        due("the first values are these", y.kept(), 0);
        Check.laws(y, "law a is liked;");
        due("LIKED is 0", y.says(0, 0, 0, 20), 0);
        y.world(NONE, 3);
        due("SPREAD is 0, LONG 1", y.length(0, 0) + y.length(0, 1), 200);
        LookTimes z = Scene.planned(0);
        Scene.looks(z, 0, 8, 599);
        z.gaze(0, 0, 1);
        z.gaze(0, 0, 599);
        due("MOST is 600", z.length(0, 0), 600);
        z.reading(1, 200);
        due("CAP is 200", z.read(0, 0), 200);
    }

    private static void texts() {
        promise = "2";
        LookTimes x = new LookTimes();
        for (int i = 1; i <= 25; i++) {
            due("feed " + i, x.feed(i, -1, 0, 538976288, Integer.MIN_VALUE), 20 * i);
        }
        due("a 501st byte", x.feed(0, 0, 0, 0, 0), NONE);
        refusals(x, 0, 1, 0);
        due("bytes of the text", x.count(5), 500);
        promise = "3";
        no("end(501)", x.end(501));
        no("end(-1)", x.end(-1));
        refusals(x, 0, 1, 2);
        yes("end(481)", x.end(481));
        due("feed behind 481", x.feed(0, 0, 0, 0, 0), NONE);
        yes("end(480)", x.end(480));
        due("feed behind 480", x.feed(0, 0, 0, 0, 0), 500);
        yes("end(0)", x.end(0));
        no("end(1)", x.end(1));
        due("bytes of the text", x.count(5), 0);
        promise = "2";
        // Of each number the highest byte first: "law a is 7;         ", the signs above 127 too.
        due("feed", x.feed(0x6c617720, 0x61206973, 0x20373b20, 0x20202020, 0x20202080), 20);
        due("byte 128 begins no TOKEN", x.fault(), 19);
        yes("end(19)", x.end(19));
        due("fault()", x.fault(), NONE);
        due("laws()", x.laws(), 1);
    }

    private static void fault(String text, int place) {
        due("fault of <" + text + ">", Check.faultOf(text), place);
    }

    private static void faults() {
        promise = "4";
        fault("", 0);
        fault(" \n ", 3);
        fault("law a is 1;", NONE);
        fault("\n law\na\nis\n1\n;\n ", NONE);
        fault("law a is 1; ", NONE);
        fault("out if 1;", NONE);
        fault("law a is 1", 10);
        fault("law a is 1  ", 12);
        fault("law a is", 8);
        fault("law a is 1;law", 14);
        fault("law a is 1+", 11);
        fault("law a is 1+;", 11);
        fault("law a is -1;", 9);
        fault("law a is ;", 9);
        fault("law a is (1;", 11);
        fault("law a is 1);", 10);
        fault("law a is ();", 10);
        fault("law a is 1 2;", 11);
        fault("law a is odd odd;", 13);
        fault("law a is 2odd;", 10);
        fault("law a is;", 8);
        fault("law a 1;", 6);
        fault("law is is 1;", 4);
        fault("law law is 1;", 4);
        fault("law out is 1;", 4);
        fault("law if is 1;", 4);
        fault("law 1 is 1;", 4);
        fault("law trials is 1;", 4);
        fault("law longest is 1;", 4);
        fault("law abcdefgh is 1;", NONE);
        fault("law abcdefghi is 1;", 4);
        fault("law ab is 1;law abc is 1;law a is 1;", NONE);
        fault("law ab is 1;law b is 1;law ab is 1;", 27);
        fault("law a is a;", 9);
        fault("law a is odds;", 9);
        fault("law a is od;", 9);
        fault("law a is add;", 9);
        fault("law a is age9;", 12);
        fault("law add is 1;law xyz is 2;", NONE);
        fault("law odds is 1;", NONE);
        fault("lawa is 1;", 0);
        fault("law a is9;", NONE);
        fault("law a is 9999;", NONE);
        fault("law a is 10000;", 9);
        fault("law a is 0009999;", NONE);
        fault("law a is 99999999999999999999999999999;", 9);
        fault("law a is 1<2;", NONE);
        fault("law a is 1=2;", NONE);
        fault("law a is 1<2=1;", 12);
        fault("law a is 1==1;", 11);
        fault("law a is (1<2)=(1=2);", NONE);
        fault("law a is ((((((((1))))))));", NONE);
        fault("law a is (((((((((1)))))))));", 17);
        fault("law a is ((((((((1))))))))+((((((((1<1))))))));", NONE);
        fault("law a is 1.;", 10);
        fault("law a is 1\t;", 10);
        fault("law a is 1\r;", 10);
        fault("law a is A;", 9);
        fault("law a is ; .", 9);
        fault("law . is ;", 4);
        fault(".", 0);
        fault("1", 0);
        fault(";", 0);
        fault("is", 0);
        fault("out is 1;", 4);
        fault("out 1;", 4);
        fault("out", 3);
        fault("out if total<trials*longest+house-age;", NONE);
        fault("out if odd+fresh+much+last+order+tired+liked;", NONE);
        String sixLaws = "law a is 1;law b is 1;law c is 1;law d is 1;law e is 1;law f is 1;";
        fault(sixLaws, NONE);
        fault(sixLaws + "law", 66);
        fault(sixLaws + "law . ", 66);
        fault(sixLaws + "out if 1;", NONE);
        String fourOuts = "out if 1;out if 1;out if 1;out if 1;";
        fault(fourOuts, NONE);
        fault(fourOuts + "law a is 1;", NONE);
        fault(fourOuts + "out", 36);
        LookTimes x = new LookTimes();
        Check.write(x, "law a is 1");
        x.fault();
        refusals(x, 0, 0, 0);
        due("the text stays", x.count(5), 10);
    }

    private static void lawsInPlace() {
        promise = "5";
        LookTimes x = Scene.planned(0);
        due("laws() without a LINE", x.laws(), NONE);
        refusals(x, 0, 0, 1);
        due("two LAWS", Check.laws(x, "law a is 1;out if 0;law b is 2;"), 2);
        due("the text is empty", x.count(5), 0);
        due("CLAUSES", x.count(4), 1);
        due("the second LAW", x.says(1, 0, 0, 8), 2);
        due("a FAULT", Check.laws(x, "law c is 3;law"), NONE);
        due("that text stays", x.count(5), 14);
        due("the LAWS stay", x.count(3), 2);
        due("and say the same", x.says(0, 0, 0, 8), 1);
        refusals(x, 0, 0, 2);
        due("CLAUSES alone", Check.laws(x, "out if 1;out if 1;"), 0);
        due("no LAWS now", x.count(3), 0);
        due("two CLAUSES", x.count(4), 2);
        due("no such LAW now", x.says(0, 0, 0, 8), NONE);
    }

    private static void likes() {
        promise = "6";
        LookTimes x = Scene.planned(0, 2);
        Check.laws(x, "law a is liked;");
        yes("liked(0, 99)", x.liked(0, 99));
        yes("liked(2, 7)", x.liked(2, 7));
        yes("liked(4, 0)", x.liked(4, 0));
        due("of KIND 0", x.says(0, 0, 0, 8), 99);
        due("of KIND 2", x.says(0, 0, 1, 8), 7);
        no("liked(-1, 1)", x.liked(-1, 1));
        no("liked(5, 100)", x.liked(5, 100));
        no("liked(0, -1)", x.liked(0, -1));
        no("liked(0, 100)", x.liked(0, 100));
        refusals(x, 2, 0, 2);
        due("of KIND 0 still", x.says(0, 0, 0, 8), 99);
        yes("liked(0, 0)", x.liked(0, 0));
        due("of KIND 0 then", x.says(0, 0, 0, 8), 0);
    }

    private static void screens() {
        promise = "7";
        LookTimes x = new LookTimes();
        due("first too low", x.screen(-1, 1, 0, 0), NONE);
        due("first too high", x.screen(10, -1, 9, 0), NONE);
        due("hand too low", x.screen(9, -10, 0, 0), NONE);
        due("hand too high", x.screen(0, 10, 0, 0), NONE);
        due("shown too low", x.screen(0, 0, -1, 0), NONE);
        due("shown too high", x.screen(0, 0, 10, 0), NONE);
        due("taken too many", x.screen(3, -4, 0, 0), NONE);
        due("brought too many", x.screen(3, 7, 0, 0), NONE);
        due("much too many", x.screen(Integer.MAX_VALUE, Integer.MAX_VALUE, 0, 0), NONE);
        refusals(x, 0, 0, 9);
        due("kind too low", x.screen(0, 0, 0, -1), NONE);
        due("kind too high, else wrong too", x.screen(-1, 0, 0, 5), NONE);
        refusals(x, 2, 0, 9);
        due("number", x.screen(9, -9, 0, 4), 0);
        due("number", x.screen(0, 9, 8, 1), 1);
        promise = "8";
        int[][] due = {{9, -9, 0, 4, 0}, {0, 9, 8, 1, 1}};
        for (int screen = 0; screen < 2; screen++) {
            for (int what = 0; what < 5; what++) {
                due("on(" + screen + ", " + what + ")", x.on(screen, what), due[screen][what]);
            }
            due("on(" + screen + ", 5)", x.on(screen, 5), VOID);
            due("on(" + screen + ", -1)", x.on(screen, -1), VOID);
        }
        due("on(2, 0)", x.on(2, 0), VOID);
        due("on(-1, 0)", x.on(-1, 0), VOID);
        promise = "7";
        for (int i = 2; i < 12; i++) {
            due("number", x.screen(1, 1, 2, 0), i);
        }
        due("a 13th", x.screen(1, 1, 2, 0), NONE);
        due("a 13th, else wrong", x.screen(10, 1, 2, 0), NONE);
        due("a 13th of no KIND", x.screen(1, 1, 2, 9), NONE);
        refusals(x, 3, 2, 9);
        due("SCREENS", x.count(0), 12);
    }

    private static void plansAndTrials() {
        promise = "9";
        LookTimes x = Scene.staged();
        for (int i = 0; i < 4; i++) {
            due("plan()", x.plan(), i);
            due("without TRIALS", x.row(i, NONE), 0);
        }
        due("a 5th", x.plan(), NONE);
        refusals(x, 0, 1, 0);
        promise = "10";
        for (int i = 1; i <= 8; i++) {
            due("trial", x.trial(2, i % 4), i);
        }
        due("a 9th", x.trial(2, 0), NONE);
        refusals(x, 0, 2, 0);
        due("no such PLAN", x.trial(4, 0), NONE);
        due("no such PLAN", x.trial(-1, 0), NONE);
        due("no such SCREEN", x.trial(2, 4), NONE);
        due("no such SCREEN", x.trial(0, -1), NONE);
        refusals(x, 4, 2, 0);
        due("trial", x.trial(1, 3), 1);
        x.baby(1, 0, 8);
        x.baby(2, 0, 8);
        due("a BABY has it", x.trial(1, 3), NONE);
        refusals(x, 4, 2, 1);
        due("a BABY has it, and it is full", x.trial(2, 3), NONE);
        refusals(x, 4, 3, 1);
        due("another PLAN", x.trial(0, 3), 1);
        promise = "11";
        due("row(2, NONE)", x.row(2, NONE), 8);
        for (int k = 0; k < 8; k++) {
            due("row(2, " + k + ")", x.row(2, k), (k + 1) % 4);
        }
        due("row(2, 8)", x.row(2, 8), NONE);
        due("row(2, -2)", x.row(2, -2), NONE);
        due("row(1, 1)", x.row(1, 1), NONE);
        due("row(3, NONE)", x.row(3, NONE), 0);
        due("row(4, NONE)", x.row(4, NONE), NONE);
        due("row(-1, NONE)", x.row(-1, NONE), NONE);
        refusals(x, 4, 3, 1);
    }

    private static void babies() {
        promise = "12";
        LookTimes x = Scene.planned(0);
        due("house too low", x.baby(0, -1, 20), NONE);
        due("house too high", x.baby(0, 6, 20), NONE);
        due("age too low", x.baby(0, 0, 7), NONE);
        due("age too high", x.baby(0, 0, 61), NONE);
        due("no such PLAN", x.baby(1, 9, 0), NONE);
        due("no such PLAN", x.baby(-1, 0, 20), NONE);
        refusals(x, 2, 0, 4);
        for (int i = 0; i < 16; i++) {
            due("number", x.baby(0, i % 6, i % 2 == 0 ? 8 : 60), i);
        }
        due("a 17th", x.baby(0, 0, 7), NONE);
        refusals(x, 2, 1, 4);
        due("BABIES", x.count(2), 16);
        x.plan();
        LookTimes y = new LookTimes();
        y.plan();
        due("of a PLAN without TRIALS", y.baby(0, 5, 30), 0);
        due("which has no DIFFERENCE", y.difference(0), VOID);
    }

    private static void gazes() {
        promise = "13";
        LookTimes x = Scene.planned(0, 1);
        x.baby(0, 0, 20);
        for (int i = 1; i <= 8; i++) {
            due("gaze", x.gaze(0, 1, i == 1 ? 600 : 1), i);
        }
        due("a 9th", x.gaze(0, 1, 601), NONE);
        due("another TRIAL", x.gaze(0, 0, 1), 1);
        due("length too low", x.gaze(0, 0, 0), NONE);
        due("length too high", x.gaze(0, 0, 601), NONE);
        due("no such BABY", x.gaze(1, 0, 1), NONE);
        due("no such BABY", x.gaze(-1, 0, 1), NONE);
        due("no such TRIAL", x.gaze(0, 2, 0), NONE);
        due("no such TRIAL", x.gaze(0, -1, 1), NONE);
        refusals(x, 4, 1, 2);
        due("length", x.length(0, 0), 1);
        due("gaze goes on", x.gaze(0, 0, 5), 2);
    }

    private static void crying() {
        promise = "14";
        LookTimes x = Scene.planned(0, 1, 0);
        Scene.looks(x, 0, 20, 100, 200, 300);
        yes("cried(0, 1)", x.cried(0, 1));
        due("ahead", x.length(0, 0), 100);
        due("from it on", x.length(0, 1), NONE);
        due("behind it", x.length(0, 2), NONE);
        no("no such TRIAL", x.cried(0, 3));
        no("no such TRIAL", x.cried(0, -2));
        no("no such BABY", x.cried(1, 0));
        no("no such BABY", x.cried(-1, NONE));
        refusals(x, 4, 0, 0);
        yes("cried(0, 2)", x.cried(0, 2));
        due("not missing any more", x.length(0, 1), 200);
        yes("cried(0, 2) again", x.cried(0, 2));
        yes("cried(0, NONE)", x.cried(0, NONE));
        yes("cried(0, NONE) again", x.cried(0, NONE));
        due("none missing", x.length(0, 2), 300);
        due("a GAZE goes on while crying", x.cried(0, 0) ? x.gaze(0, 0, 5) : 0, 2);
        refusals(x, 4, 0, 0);
    }

    private static void rules() {
        promise = "15";
        LookTimes x = new LookTimes();
        yes("rule(1, 10, 0)", x.rule(1, 10, 0));
        yes("rule(100, 600, 100)", x.rule(100, 600, 100));
        x.book(0);
        no("w too low", x.rule(0, 10, 0));
        no("w too high", x.rule(101, 10, 0));
        no("most too low", x.rule(1, 9, 0));
        no("most too high", x.rule(1, 601, 0));
        no("least too low", x.rule(1, 10, -1));
        no("least too high", x.rule(1, 10, 101));
        refusals(x, 0, 0, 6);
        due("nothing else changed", x.kept(), 0);
    }

    private static void leans() {
        promise = "16";
        LookTimes x = Scene.planned(1, 0);
        Scene.looks(x, 0, 20, 30, 30);
        yes("lean(-50)", x.lean(-50));
        due("brought to 0", x.length(0, 0), 0);
        due("not ODD", x.length(0, 1), 30);
        yes("lean(50)", x.lean(50));
        due("with LEAN", x.length(0, 0), 80);
        no("lean(51)", x.lean(51));
        no("lean(-51)", x.lean(-51));
        refusals(x, 0, 0, 2);
        due("still", x.length(0, 0), 80);
        yes("lean(0)", x.lean(0));
        due("without", x.length(0, 0), 30);
        LookTimes y = Scene.planned(1);
        Scene.looks(y, 0, 20, 580);
        y.rule(20, 560, 0);
        y.lean(50);
        due("brought to 600, over MOST", y.length(0, 0), 600);
        y.lean(30);
        due("MOST ahead of LEAN", y.length(0, 0), 590);
        y.cried(0, 0);
        due("missing, whatever LEANS", y.length(0, 0), NONE);
    }

    private static void readings() {
        promise = "17";
        LookTimes x = Scene.planned(0);
        Scene.looks(x, 0, 20, 500);
        yes("reading(1, 10)", x.reading(1, 10));
        due("CAP 10", x.read(0, 0), 10);
        yes("reading(3, 600)", x.reading(3, 600));
        due("of the greatest", x.read(0, 0), 100);
        no("reading(-1, 200)", x.reading(-1, 200));
        no("reading(4, 200)", x.reading(4, 200));
        no("reading(0, 9)", x.reading(0, 9));
        no("reading(0, 601)", x.reading(0, 601));
        refusals(x, 0, 0, 4);
        due("still", x.read(0, 0), 100);
        yes("reading(2, 10)", x.reading(2, 10));
        due("nine digits", x.read(0, 0), 90);
        yes("reading(1, 600)", x.reading(1, 600));
        due("CAP 600", x.read(0, 0), 500);
    }

    private static void length(LookTimes x, int w, int most, int least, int want) {
        x.rule(w, most, least);
        due("length by " + w + ", " + most + ", " + least, x.length(0, 0), want);
    }

    private static void lengths() {
        promise = "18";
        LookTimes x = Scene.gazed(100, 10, 50, 30, 70, 40, 5);
        length(x, 10, 600, 0, 100);
        length(x, 11, 600, 0, 150);
        length(x, 30, 600, 0, 150);
        length(x, 31, 600, 0, 220);
        length(x, 41, 600, 0, 225);
        length(x, 41, 224, 0, 224);
        length(x, 100, 10, 0, 10);
        // LEAST 51: the LOOK of 50 is AWAY, 10 + 50 + 30 = 90 together.
        length(x, 90, 600, 51, 100);
        length(x, 91, 600, 51, 170);
        length(x, 91, 600, 50, 220);
        // LEAST 71: 10 + 50 + 30 + 70 + 40 + 5 is AWAY behind the only LOOK.
        length(x, 1, 600, 71, 100);
        length(x, 1, 600, 100, 100);
        LookTimes y = Scene.gazed(5, 90, 60, 3, 6, 3, 60);
        length(y, 20, 600, 0, 5);
        // AWAY ahead of every LOOK ends nothing.
        length(y, 20, 600, 6, 126);
        length(y, 20, 600, 7, 120);
        length(y, 12, 600, 7, 60);
        length(y, 13, 600, 7, 120);
        length(y, 20, 600, 60, 120);
        length(y, 20, 600, 61, NONE);
        due("without a GAZE", y.length(0, 1), NONE);
        due("no such TRIAL", y.length(0, 2), NONE);
        due("no such TRIAL", y.length(0, -1), NONE);
        due("no such BABY", y.length(1, 0), NONE);
        due("no such BABY", y.length(-1, 0), NONE);
        refusals(y, 0, 0, 0);
        length(Scene.gazed(300, 5, 300, 5, 300, 5, 300, 5), 20, 600, 0, 600);
        length(Scene.gazed(300, 5, 100, 5, 100, 5, 50, 5), 20, 600, 0, 550);
    }

    private static void reads() {
        promise = "19";
        LookTimes x = Scene.planned(0, 1, 0, 1);
        Scene.looks(x, 0, 20, 255, 256, 0, 10);
        due("READING 0", x.read(0, 0), 255);
        x.reading(1, 255);
        due("under CAP", x.read(0, 0), 255);
        due("over CAP", x.read(0, 1), 255);
        x.reading(2, 200);
        due("8 digits", x.read(0, 0), 80);
        due("9 digits", x.read(0, 1), 90);
        x.reading(3, 200);
        due("of the greatest, cut", x.read(0, 0), 99);
        due("the greatest", x.read(0, 1), 100);
        due("a small one", x.read(0, 3), 3);
        due("missing", x.read(0, 2), NONE);
        due("no such TRIAL", x.read(0, 4), NONE);
        due("no such BABY", x.read(1, 0), NONE);
        due("no such", x.read(-1, -1), NONE);
        x.lean(50);
        due("the greatest with LEAN", x.read(0, 0), 83);
        x.lean(-50);
        due("LEAN brings it to 0", x.read(0, 3), 0);
        x.reading(2, 200);
        due("0 has no digit", x.read(0, 3), 0);
        x.reading(3, 200);
        LookTimes y = Scene.planned(1);
        Scene.looks(y, 0, 20, 10);
        y.lean(-50);
        y.reading(3, 200);
        due("the greatest is 0", y.read(0, 0), 0);
    }

    private static int worked(String e) {
        LookTimes x = Scene.planned(1, 0, 0);
        x.liked(0, 44);
        Check.laws(x, "law a is " + e + ";");
        return x.says(0, 0, 2, 33);
    }

    private static void says() {
        promise = "20";
        LookTimes x = Scene.planned(0, 1, 3, 2, 0, 0);
        x.liked(0, 9);
        x.liked(1, 10);
        x.liked(2, 11);
        x.liked(3, 12);
        Check.laws(x, "law a is odd*100+fresh;law b is much*100+last;law c is liked*10+order;law d is age;"
            + "law e is 100-tired;law f is house+total+longest+trials;");
        int[][] due = {{0, 100, 100, 0, 1, 2}, {200, 100, 500, 501, 200, 201}, {90, 101, 122, 113, 94, 95},
            {47, 47, 47, 47, 47, 47}, {100, 90, 81, 73, 66, 59}, {0, 0, 0, 0, 0, 0}};
        for (int law = 0; law < 6; law++) {
            for (int trial = 0; trial < 6; trial++) {
                due("says(" + law + ", 0, " + trial + ", 47)", x.says(law, 0, trial, 47), due[law][trial]);
            }
        }
        due("age 8", x.says(3, 0, 0, 8), 8);
        due("age 60", x.says(3, 0, 0, 60), 60);
        due("age 7", x.says(3, 0, 0, 7), NONE);
        due("age 61", x.says(3, 0, 0, 61), NONE);
        due("no such LAW", x.says(6, 0, 0, 20), NONE);
        due("no such LAW", x.says(-1, 0, 0, 20), NONE);
        due("no such PLAN", x.says(0, 1, 0, 20), NONE);
        due("no such PLAN", x.says(0, -1, 0, 20), NONE);
        due("no such TRIAL", x.says(0, 0, 6, 20), NONE);
        due("no such TRIAL", x.says(0, 0, -1, 20), NONE);
        refusals(x, 0, 0, 0);
    }

    private static void saysWorked() {
        promise = "20, worked";
        due("*, + in order", worked("2+3*4"), 14);
        due("from left to right", worked("20-3-4"), 13);
        due("from left to right", worked("100/10/5"), 2);
        due("from left to right", worked("7/2*2"), 6);
        due("brackets", worked("(2+3)*4"), 20);
        due("by 0", worked("7/0+5"), 5);
        due("cut towards 0", worked("10+(0-7)/2"), 7);
        due("cut towards 0", worked("10+7/(0-2)"), 7);
        due("brought to 0", worked("3-4"), 0);
        due("brought to 600", worked("601"), 600);
        due("600", worked("600"), 600);
        due("worked to 1000000 at most", worked("9999*9999/9999"), 100);
        due("worked to 1000000 at most", worked("9999*9999+1-9999*100"), 100);
        due("worked to -1000000 at least", worked("(0-9999)*9999/(0-9999)"), 100);
        due("worked to -1000000 at least", worked("(0-9999)*9999-1+9999*9999+3"), 3);
        due("both over", worked("(9999*9999)*(9999*9999)-9999*9999+8"), 8);
        due("<", worked("3<4"), 1);
        due("< not", worked("4<4"), 0);
        due("=", worked("4=2+2"), 1);
        due("= not", worked("4=5"), 0);
        due("in brackets", worked("((1<2)=(3=3))*50+(2<1)"), 50);
        due("eight deep", worked("((((((((5))))))))"), 5);
        due("last of equal", worked("last"), 1);
        due("fresh", worked("fresh"), 1);
        due("order", worked("order"), 2);
        due("liked", worked("liked"), 44);
        due("tired", worked("105+tired-0*odd"), 105 + (105 + 115) / 10);
        due("tired of what is brought", worked("700-0*tired+order*0*tired"), 600);
        due("leading noughts", worked("007"), 7);
    }

    private static void outs() {
        promise = "21";
        LookTimes x = Scene.planned(0, 1, 0);
        Scene.looks(x, 3, 30, 100, 250, 0);
        due("without CLAUSES", x.out(0, 0), 0);
        due("without CLAUSES", x.out(0, 1), NONE);
        String[] same = {"total=350", "longest=250", "trials=2", "age=30", "house=3"};
        for (String e : same) {
            Check.laws(x, "out if " + e + ";");
            due(e, x.out(0, 0), 1);
            due(e + ", which", x.out(0, 1), 0);
        }
        Check.laws(x, "out if odd+fresh+much+last+order+tired+liked;out if 0;out if 0-1;out if 1;");
        due("below 0 isn't 0", x.out(0, 0), 1);
        due("the first that isn't 0", x.out(0, 1), 2);
        due("what 2", x.out(0, 2), NONE);
        due("what -1", x.out(0, -1), NONE);
        due("no such BABY", x.out(1, 0), NONE);
        due("no such BABY", x.out(-1, 0), NONE);
        Check.laws(x, "out if total=380;");
        x.lean(30);
        due("LENGTHS with LEAN", x.out(0, 0), 1);
        x.lean(0);
        due("without", x.out(0, 0), 0);
        Check.laws(x, "out if trials<1;");
        x.cried(0, 0);
        due("all missing", x.out(0, 0), 1);
        Check.laws(x, "out if longest;");
        due("longest of none is 0", x.out(0, 0), 0);
    }

    private static void leaves() {
        promise = "22";
        LookTimes x = Scene.differing(10, 20);
        yes("leave(1, true)", x.leave(1, true));
        due("LEFT", x.count(6), 1);
        due("not COUNTED", x.odds(1), 10);
        no("LEFT already", x.leave(1, true));
        no("not LEFT", x.leave(0, false));
        no("no such BABY", x.leave(2, true));
        no("no such BABY", x.leave(-1, false));
        refusals(x, 2, 0, 2);
        yes("leave(1, false)", x.leave(1, false));
        due("COUNTED again", x.odds(1), 30);
        due("LEFT", x.count(6), 0);
        due("a LEFT one has its DIFFERENCE", x.leave(0, true) ? x.difference(0) : 0, 10);
    }

    private static void differences() {
        promise = "23";
        LookTimes x = Scene.planned(0, 1, 0, 1, 0);
        Scene.looks(x, 0, 20, 10, 100, 20, 200, 60);
        due("a * n less b * m", x.difference(0), 300 * 3 - 90 * 2);
        x.cried(0, 3);
        due("of those there", x.difference(0), 100 * 2 - 30);
        x.cried(0, 1);
        due("no ODD one", x.difference(0), VOID);
        due("no such BABY", x.difference(1), VOID);
        due("no such BABY", x.difference(-1), VOID);
        LookTimes y = Scene.planned(1, 0);
        Scene.looks(y, 0, 20, 100, 0);
        due("no other one", y.difference(0), VOID);
        y.gaze(0, 1, 300);
        due("below 0", y.difference(0), -200);
        y.reading(1, 150);
        due("READING 1", y.difference(0), -50);
        y.reading(2, 150);
        due("READING 2", y.difference(0), -20);
        y.reading(3, 150);
        due("READING 3", y.difference(0), -67);
        y.reading(0, 150);
        y.lean(20);
        due("with LEAN", y.difference(0), -180);
    }

    private static void odds() {
        promise = "24";
        LookTimes x = Scene.differing(10, 20, -30, 40);
        due("COUNTED", x.odds(0), 4);
        due("SUM", x.odds(1), 40);
        // Turned ones that are 0 or less together: {}, {-30}, {10,-30}, {20,-30}, {10,20,-30}.
        due("ways", x.odds(2), 5);
        due("of 1000, cut", x.odds(3), 312);
        due("what 4", x.odds(4), VOID);
        due("what -1", x.odds(-1), VOID);
        LookTimes none = new LookTimes();
        due("none COUNTED", none.odds(0), 0);
        due("none COUNTED", none.odds(1), 0);
        due("none COUNTED", none.odds(2), 1);
        due("none COUNTED", none.odds(3), 1000);
        Check.laws(x, "out if age=11;");
        due("without one that is OUT", x.odds(0), 3);
        due("SUM without it", x.odds(1), 0);
        due("ways without it", x.odds(2), 5);
        x.leave(2, true);
        due("without a LEFT one", x.odds(0), 2);
        due("all but one way is less", x.odds(3), 250);
        LookTimes same = Scene.differing(0, 0, 0);
        due("all 0", same.odds(2), 8);
        due("all 0, of 1000", same.odds(3), 1000);
        int[] many = new int[16];
        java.util.Arrays.fill(many, 5);
        due("sixteen: one way", Scene.differing(many).odds(2), 1);
        due("sixteen: of 1000", Scene.differing(many).odds(3), 0);
        java.util.Arrays.fill(many, -5);
        due("sixteen: every way", Scene.differing(many).odds(2), 65536);
        for (int i = 0; i < 16; i += 2) {
            many[i] = 5;
        }
        // At least as many of the eight below 0 turned as of the eight above: (2^16 + C(16, 8)) / 2.
        due("sixteen, half and half", Scene.differing(many).odds(2), (65536 + 12870) / 2);
    }

    private static void afters() {
        promise = "25";
        LookTimes none = new LookTimes();
        int[] first = {5, 150, 0, 1000, 0};
        for (int what = 0; what < 5; what++) {
            due("none COUNTED, what " + what, none.after(what), first[what]);
        }
        due("what 5", none.after(5), NONE);
        due("what -1", none.after(-1), NONE);
        // Only W 20 or less ends the long look at what is as it must be; only MOST 300 or more keeps what is ODD long.
        LookTimes x = Scene.planned(0, 1);
        for (int i = 0; i < 5; i++) {
            x.baby(0, 0, 20);
            x.gaze(i, 0, 200);
            x.gaze(i, 0, 20);
            x.gaze(i, 0, 200);
            x.gaze(i, 1, 250);
        }
        x.rule(50, 400, 7);
        x.reading(1, 10);
        x.book(5);
        due("W", x.after(0), 5);
        due("MOST", x.after(1), 300);
        due("the READING", x.after(2), 0);
        due("ODDS then", x.after(3), 31);
        // W 5, 10, 20 with MOST 300, 600: READINGS 0 and 3 (READING 1 has CAP 10, READING 2 eight digits both).
        due("below 50", x.after(4), 12);
        due("RULE and READING stay", x.kept(), 0);
        x.reading(1, 220);
        due("CAP as it is", x.after(4), 18);
        x.rule(50, 400, 0);
        x.lean(-50);
        due("LEAN as it is", x.after(4), 0);
        x.lean(0);
        x.rule(50, 400, 100);
        Check.laws(x, "out if 299<total;");
        due("OUT by LENGTHS then: MOST 150", x.after(0) * 1000 + x.after(1), 5150);
        due("OUT by LENGTHS then", x.after(3), 1000);
        LookTimes late = Scene.planned(0, 1);
        for (int i = 0; i < 5; i++) {
            late.baby(0, 0, 20);
            late.gaze(i, 0, 200);
            late.gaze(i, 1, 100);
            late.gaze(i, 1, 39);
            late.gaze(i, 1, 250);
        }
        due("W 40 alone", late.after(0), 40);
        due("MOST 300", late.after(1), 300);
        due("the first READING", late.after(2), 0);
        due("below 50: READINGS 0, 2, 3 twice", late.after(4), 6);
        LookTimes split = Scene.planned(0, 1);
        Scene.looks(split, 0, 20, 127, 127);
        split.gaze(0, 1, 1);
        split.gaze(0, 1, 1);
        due("like ones: the first", split.after(0) * 1000000 + split.after(1) * 1000 + split.after(2), 5150000);
        due("ODDS of it", split.after(3), 500);
        refusals(split, 0, 0, 0);
        // Of 1000 both are 0: with W 40 one way of 4096, with less two.
        LookTimes fine = Scene.planned(0, 1);
        for (int i = 0; i < 12; i++) {
            Scene.looks(fine, 0, 20, 100, i == 0 ? 100 : 140);
        }
        fine.gaze(0, 1, 30);
        fine.gaze(0, 1, 50);
        due("ODDS as a fraction", fine.after(0), 40);
        due("ODDS then", fine.after(3), 0);
        due("below 50", fine.after(4), 48);
        // 13 of 256 ways are 50 of 1000 by READINGS 0 and 1; by digits 9 are 35, by the greatest 26 are 101.
        LookTimes edge = Scene.planned(0, 1);
        for (int difference : new int[] {31, 15, 27, 22, 36, 40, 18, -42}) {
            Scene.looks(edge, 0, 20, 60, 60 + difference);
        }
        due("50 of 1000", edge.odds(3), 50);
        due("isn't below 50", edge.after(4), 12);
        due("the READING", edge.after(2), 2);
        due("ODDS then", edge.after(3), 35);
        // MOST 150 puts one OUT: 2 of 4 ways; MOST 300 doesn't: 2 of 8.
        LookTimes fewer = Scene.planned(0, 1);
        Scene.looks(fewer, 0, 20, 100, 140);
        Scene.looks(fewer, 0, 20, 100, 100);
        Scene.looks(fewer, 0, 20, 5, 200);
        Check.laws(fewer, "out if total<160;");
        due("fractions of other numbers of BABIES", fewer.after(1), 300);
        due("ODDS then", fewer.after(3), 250);
    }

    private static void leavings() {
        promise = "26";
        LookTimes x = Scene.differing(10, 20, -30, 40);
        due("none need go", x.leaving(313), 0);
        due("of 312, one must", x.leaving(312), 4);
        // Without the third: 1 of 8.
        due("of 126", x.leaving(126), 4);
        due("of 125, none do", x.leaving(125), NONE);
        due("limit 1000", x.leaving(1000), 0);
        due("limit 1001", x.leaving(1001), NONE);
        due("limit 0", x.leaving(0), NONE);
        due("limit 1", x.leaving(1), NONE);
        due("none COUNTED", new LookTimes().leaving(1000), NONE);
        LookTimes y = Scene.differing(-9, 1, -9, 1, -9, 1, 1, 1, 1);
        due("three must", y.leaving(16), 21);
        y.leave(0, true);
        due("two of COUNTED must", y.leaving(16), 20);
        LookTimes z = Scene.differing(5, 5, -5, -5, 5, 5);
        // Without both below 0 one of 16 is left; of single ones the third comes first.
        due("both", z.leaving(63), 12);
        due("the least bits of like ones", z.leaving(300), 4);
        due("ODDS of all", z.odds(3), (22 * 1000) / 64);
        int[] fives = {5, 5, 5, 5, 5, 5, 5, 5, 5, 5};
        due("limit 1: below it is 0", Scene.differing(fives).leaving(1), 0);
        LookTimes one = Scene.differing(-30, 10, 20);
        due("the first BABY: 1 of 4 ways is below 251", one.leaving(251), 1);
        due("250 isn't below 250", one.leaving(250), NONE);
        LookTimes two = Scene.differing(-9, -9, 1, 1, 1, 1);
        due("the first two: 1 of 16", two.leaving(63), 3);
        due("62 isn't below 62", two.leaving(62), NONE);
        LookTimes three = Scene.differing(-9, -9, -9, 1, 1, 1, 1, 1, 1);
        due("the first three: 1 of 64", three.leaving(16), 7);
        due("15 isn't below 15", three.leaving(15), NONE);
        LookTimes four = Scene.differing(-9, -9, -9, -9, 1, 1, 1, 1, 1, 1, 1);
        due("four would have to", four.leaving(8), NONE);
    }

    private static void houses() {
        promise = "27";
        LookTimes x = Scene.planned(0, 1);
        Scene.looks(x, 0, 20, 100, 110);
        Scene.looks(x, 0, 20, 100, 120);
        Scene.looks(x, 5, 20, 100, 60);
        Scene.looks(x, 2, 20, 100, 0);
        due("COUNTED in HOUSE 0", x.house(0, 0), 2);
        due("SUM in HOUSE 0", x.house(0, 1), 30);
        due("SUM in HOUSE 5", x.house(5, 1), -40);
        due("none COUNTED in HOUSE 2", x.house(2, 0), 0);
        due("SUM of none", x.house(2, 1), 0);
        due("no such HOUSE", x.house(6, 0), VOID);
        due("no such HOUSE", x.house(-1, 0), VOID);
        due("what 2", x.house(0, 2), VOID);
        due("what -1", x.house(0, -1), VOID);
        promise = "28";
        // Without HOUSE 0: {-40}, both ways of 2. Without HOUSE 5: {10, 20}, one way of 4.
        due("the least", x.joined(0), 250);
        due("the greatest", x.joined(1), 1000);
        due("what 2", x.joined(2), NONE);
        due("what -1", x.joined(-1), NONE);
        x.leave(2, true);
        due("one HOUSE alone", x.joined(0), 1000);
        x.leave(0, true);
        x.leave(1, true);
        due("none COUNTED", x.joined(0), NONE);
        due("none COUNTED", x.joined(1), NONE);
        due("COUNTED in HOUSE 0", x.house(0, 0), 0);
    }

    private static void spans() {
        promise = "29";
        LookTimes x = Scene.differing(10, 10, -20);
        x.lean(7);
        // LEAN 0: {}, {-20}, {10,-20} twice, {10,10,-20}: 5 of 8.
        due("l 0, the least", x.span(0, 0), 625);
        due("l 0, the greatest", x.span(0, 1), 625);
        // LEAN 20 makes 30, 30, 0: {} and {0}. LEAN 21: one way. LEAN -10 makes 0, 0, -30: all.
        due("l 20", x.span(20, 0), 250);
        due("l 21", x.span(21, 0), 125);
        due("l 10", x.span(10, 1), 1000);
        due("l 9", x.span(9, 1), 625);
        due("l 50", x.span(50, 0), 125);
        due("LEAN stays", x.difference(0), 17);
        due("l 51", x.span(51, 0), NONE);
        due("l -1", x.span(-1, 0), NONE);
        due("what 2", x.span(5, 2), NONE);
        due("what -1", x.span(5, -1), NONE);
        due("none COUNTED", new LookTimes().span(50, 1), 1000);
        Check.laws(x, "out if longest=321;");
        // OUT goes by LENGTHS with LEAN: LEAN 11 leaves -9 alone, LEAN -9 still has 1, 1, -29.
        due("who is OUT then", x.span(11, 1), 1000);
    }

    private static void spreadsAndWorlds() {
        promise = "30";
        LookTimes x = Scene.planned(0, 1, 0);
        yes("spread(0, 1)", x.spread(0, 1));
        yes("spread(100, 5)", x.spread(100, 5));
        no("s too low", x.spread(-1, 1));
        no("s too high", x.spread(101, 1));
        no("l too low", x.spread(0, 0));
        no("l too high", x.spread(0, 6));
        refusals(x, 0, 0, 4);
        promise = "31";
        due("without BABIES", x.world(NONE, 0), 0);
        x.baby(0, 0, 20);
        x.baby(0, 0, 30);
        due("no such LAW", x.world(0, 0), NONE);
        due("no such LAW", x.world(-2, -1), NONE);
        due("seed too low", x.world(NONE, -1), NONE);
        due("seed too high", x.world(NONE, 1000001), NONE);
        refusals(x, 2, 0, 6);
        Check.laws(x, "law a is age*10+order;");
        x.spread(0, 1);
        for (int k = 0; k < 8; k++) {
            x.gaze(0, 0, 3);
        }
        due("six LOOKS", x.world(0, 1000000), 6);
        for (int trial = 0; trial < 3; trial++) {
            due("what it SAYS", x.length(0, trial), 200 + trial);
            due("for its AGE", x.length(1, trial), 300 + trial);
        }
        due("one LOOK in place of all", x.gaze(0, 0, 9), 2);
        x.cried(0, 1);
        x.cried(1, 0);
        due("none from CRYING on", x.world(NONE, 5), 1);
        due("what none SAYS", x.length(0, 0), 100);
        x.cried(0, NONE);
        due("that had its GAZE taken", x.length(0, 1), NONE);
        // Seed 1, S 10, L 5: lots worked by hand in longs.
        x.cried(1, NONE);
        x.spread(10, 5);
        x.world(NONE, 1);
        long lot = 1;
        for (int baby = 0; baby < 2; baby++) {
            for (int trial = 0; trial < 3; trial++) {
                lot = lot * 1103515245L + 12345L & 0x7fffffffL;
                long look = 100 + lot / 256 % 21 - 10;
                lot = lot * 1103515245L + 12345L & 0x7fffffffL;
                look = lot / 256 % 16 == 0 ? look * 5 : look;
                due("by lots", x.length(baby, trial), look);
            }
        }
        Check.laws(x, "law a is 0;law b is 600;");
        x.spread(0, 1);
        x.world(0, 1);
        due("brought to 1", x.length(0, 0), 1);
        x.spread(100, 5);
        boolean high = false;
        for (int seed = 0; seed < 8; seed++) {
            x.world(1, seed);
            high |= x.length(0, 0) == 600;
            due("brought to 600", x.length(0, 0) > 600 ? 1 : 0, 0);
        }
        yes("600 comes", high);
    }

    private static void manyWorlds() {
        promise = "32";
        LookTimes x = Scene.differing(10, 20, 30, 40, 50);
        Check.laws(x, "law a is 100+order*50;law b is 200-order*50;");
        due("all by a LAW", x.worlds(0, 0, 10, 31), 10);
        due("one of 32 is 31", x.worlds(0, 0, 10, 30), 0);
        due("the other way", x.worlds(1, 0, 10, 999), 0);
        due("the other way", x.worlds(1, 0, 7, 1000), 7);
        due("none: all are like", x.worlds(NONE, 0, 3, 999), 0);
        due("GAZES are as they were", x.odds(1), 150);
        due("seed at most", x.worlds(0, 1000000, 1, 1000), 1);
        due("no such LAW", x.worlds(2, 0, 1, 1000), NONE);
        due("no such LAW", x.worlds(-2, 0, 1, 1000), NONE);
        due("seed too low", x.worlds(0, -1, 1, 1000), NONE);
        due("seed too high", x.worlds(0, 1000001, 1, 1000), NONE);
        due("n too low", x.worlds(0, 0, 0, 1000), NONE);
        due("n too high", x.worlds(0, 0, 11, 1000), NONE);
        due("limit too low", x.worlds(0, 0, 1, -1), NONE);
        due("limit too high", x.worlds(0, 0, 1, 1001), NONE);
        refusals(x, 0, 0, 0);
        x.spread(80, 2);
        int found = 0;
        x.image(0);
        for (int seed = 40; seed < 50; seed++) {
            x.world(NONE, seed);
            found += x.odds(3) <= 400 ? 1 : 0;
        }
        x.restore(0);
        due("each seed one more", x.worlds(NONE, 40, 10, 400), found);
        yes("some are, some aren't", found > 0 && found < 10);
    }

    private static void parts() {
        promise = "33";
        LookTimes x = Scene.planned(0, 1, 0);
        Check.laws(x, "law a is 50+odd;law b is 50-odd;law c is 50;law d is 70+odd*9;law e is age*odd+20;");
        due("above, below", x.parts(0, 0, 1, 20), 1);
        due("above, 0", x.parts(0, 0, 2, 20), 1);
        due("below, 0", x.parts(0, 1, 2, 20), 1);
        due("above, above", x.parts(0, 0, 3, 20), 0);
        due("itself", x.parts(0, 0, 0, 20), 0);
        due("for an AGE: 20 is 0", x.parts(0, 2, 4, 20), 1);
        due("AGE 8", x.parts(0, 0, 1, 8), 1);
        due("AGE 60", x.parts(0, 0, 1, 60), 1);
        due("AGE 7", x.parts(0, 0, 1, 7), NONE);
        due("AGE 61", x.parts(0, 0, 1, 61), NONE);
        due("no such PLAN", x.parts(1, 0, 1, 20), NONE);
        due("no such PLAN", x.parts(-1, 0, 1, 20), NONE);
        due("no such LAW", x.parts(0, 5, 1, 20), NONE);
        due("no such LAW", x.parts(0, 0, -1, 20), NONE);
        x.plan();
        due("without TRIALS", x.parts(1, 0, 1, 20), 0);
        x.trial(1, 0);
        due("none ODD", x.parts(1, 0, 1, 20), 0);
        x.trial(1, 1);
        x.lean(-50);
        x.reading(2, 10);
        due("without LEAN, by READING 0", x.parts(1, 0, 1, 20), 1);
        Check.laws(x, "law a is 600+odd;law b is 100+odd-order;");
        due("what is brought to 600 is like", x.parts(1, 0, 1, 20), 0);
    }

    private static void next(LookTimes x, int m, int age, int couples, int... row) {
        due("next couples", x.next(m, age, -2), couples);
        due("next size", x.next(m, age, NONE), row.length);
        for (int k = 0; k < row.length; k++) {
            due("next(" + m + ", " + age + ", " + k + ")", x.next(m, age, k), row[k]);
        }
        due("next, one behind", x.next(m, age, row.length), NONE);
    }

    private static void nexts() {
        promise = "34";
        LookTimes x = new LookTimes();
        due("no SCREENS", x.next(2, 20, NONE), NONE);
        x.screen(1, 1, 2, 0);
        due("one SCREEN", x.next(2, 20, NONE), NONE);
        x = Scene.staged();
        next(x, 2, 20, 0, 0, 1);
        Check.laws(x, "law a is 50+odd;law b is 50-odd;");
        next(x, 4, 20, 1, 0, 1);
        due("m 1", x.next(1, 20, NONE), NONE);
        due("m 5", x.next(5, 20, NONE), NONE);
        due("age 7", x.next(2, 7, NONE), NONE);
        due("age 61", x.next(2, 61, NONE), NONE);
        due("k -3", x.next(2, 20, -3), NONE);
        due("k 4", x.next(4, 20, 4), NONE);
        due("k far", x.next(4, 20, Integer.MAX_VALUE), NONE);
        refusals(x, 0, 0, 0);
        Check.laws(x, "law a is much*10;law b is 30;");
        next(x, 2, 20, 1, 0, 1);
        Check.laws(x, "law a is 50;law b is 50+(age<20)*order*odd;");
        next(x, 3, 19, 1, 0, 1);
        next(x, 3, 20, 0, 0, 1);
        Check.laws(x, "law a is 50;law b is 50+last*odd;");
        next(x, 3, 20, 1, 2, 3);
        // The row of 3 alone parts: a third TRIAL that is ODD.
        Check.laws(x, "law a is 50;law b is 50+(order=2)*odd;");
        next(x, 2, 20, 0, 0, 1);
        next(x, 3, 20, 1, 0, 1, 3);
        next(x, 4, 20, 1, 0, 1, 3);
        Check.laws(x, "law a is 50;law b is 50+(order=3)*odd;law c is 50-(order=3)*odd;");
        next(x, 3, 20, 0, 0, 1);
        next(x, 4, 20, 3, 0, 1, 2, 3);
        Check.laws(x, "law a is 50;law b is 50+liked*odd;");
        next(x, 2, 20, 0, 0, 1);
        x.liked(3, 1);
        next(x, 2, 20, 1, 0, 3);
        x.liked(0, 1);
        x.liked(3, 0);
        next(x, 2, 20, 0, 0, 1);
        x.screen(3, 3, 5, 0);
        next(x, 2, 20, 1, 0, 4);
        Check.laws(x, "law a is 50+odd;law b is 50-odd;law c is 50;law d is 60+odd;law e is 40;law f is 9-odd;");
        next(x, 4, 8, 12, 0, 1);
        Check.laws(x, "law a is 50;law b is 60;");
        next(x, 4, 60, 0, 0, 1);
        LookTimes two = new LookTimes();
        two.screen(1, 1, 2, 0);
        two.screen(1, 1, 2, 0);
        Check.laws(two, "law a is 50+order;law b is 50-order;");
        next(two, 4, 60, 0, 0, 1);
    }

    private static void freshOnes() {
        promise = "35";
        LookTimes x = Scene.planned(0, 1, 0, 0);
        Scene.looks(x, 0, 20, 100, 200, 50, 30);
        Scene.looks(x, 0, 30, 101, 0, 61, 20);
        due("no TRIAL ahead", x.fresh(0), 401 / 3);
        due("one ahead", x.fresh(1), 111 / 2);
        due("two ahead", x.fresh(2), 25);
        due("three ahead", x.fresh(3), NONE);
        due("8", x.fresh(8), NONE);
        due("-1", x.fresh(-1), NONE);
        x.cried(0, 2);
        due("not what is missing", x.fresh(1), 61);
        x.leave(1, true);
        due("who is LEFT too", x.fresh(2), 20);
        x.lean(10);
        due("with LEAN", x.fresh(0), 411 / 3);
        Check.laws(x, "out if age=30;");
        due("not who is OUT", x.fresh(0), 310 / 2);
        due("not who is OUT", x.fresh(2), NONE);
        LookTimes y = Scene.planned(2, 2, 2, 2, 2, 2, 2, 2);
        Scene.looks(y, 0, 20, 8, 7, 6, 5, 4, 3, 2, 1);
        due("seven ahead", y.fresh(7), 1);
        y.cried(0, NONE);
        due("TRIALS that are missing are ahead too", Scene.looks(y, 0, 20, 0, 90) == 1 ? y.fresh(1) : 0, 97 / 2);
    }

    private static void settledOnes() {
        promise = "36";
        LookTimes x = Scene.planned(0, 0, 0, 0, 0);
        Scene.looks(x, 0, 20, 100, 60, 40, 40, 39);
        due("less than half", x.settled(0), 4);
        Scene.looks(x, 0, 20, 100, 61, 40, 40, 39);
        due("less than half, by a half", x.settled(1), 3);
        Scene.looks(x, 0, 20, 100, 10, 20, 10, 1);
        due("the TRIAL 2 with 1", x.settled(2), 2);
        Scene.looks(x, 0, 20, 100, 60, 40, 40, 40);
        due("half isn't", x.settled(3), NONE);
        Scene.looks(x, 0, 20, 100, 0, 1, 1, 1);
        due("TRIAL 1 is missing", x.settled(4), NONE);
        Scene.looks(x, 0, 20, 0, 100, 1, 1, 1);
        due("TRIAL 0 is missing", x.settled(5), NONE);
        Scene.looks(x, 0, 20, 100, 100, 0, 1, 1);
        due("TRIAL 2 is missing", x.settled(6), 4);
        Scene.looks(x, 0, 20, 100, 100, 50, 0, 1);
        due("TRIAL 3 is missing", x.settled(7), NONE);
        Scene.looks(x, 0, 20, 100, 100, 50, 40, 1);
        x.cried(8, 3);
        due("CRIED", x.settled(8), NONE);
        due("no such BABY", x.settled(9), NONE);
        due("no such BABY", x.settled(-1), NONE);
        LookTimes y = Scene.planned(0, 1);
        Scene.looks(y, 0, 20, 100, 1);
        due("two TRIALS", y.settled(0), NONE);
        LookTimes z = Scene.planned(1, 0, 0);
        Scene.looks(z, 0, 20, 95, 20, 40);
        due("without LEAN", z.settled(0), NONE);
        z.lean(6);
        due("with LEAN", z.settled(0), 2);
    }

    private static void aparts() {
        promise = "37";
        LookTimes x = Scene.planned(0, 1, 0);
        Scene.looks(x, 0, 20, 100, 200, 50);
        Scene.looks(x, 0, 30, 300, 0, 310);
        Scene.looks(x, 0, 40, 90, 120, 0);
        due("no LAW", x.apart(0, 0), NONE);
        promise = "38";
        due("no LAW", x.nearest(0), NONE);
        due("no LAW", x.nearest(NONE), NONE);
        promise = "37";
        Check.laws(x, "law a is 100;law b is age*10;law c is 100;law d is 95+5*odd;");
        due("of BABY 0", x.apart(0, 0), 0 + 100 + 50);
        due("of BABY 0, for its AGE", x.apart(1, 0), 100 + 0 + 150);
        due("of BABY 1, who isn't COUNTED", x.apart(1, 1), 0 + 10);
        due("of BABY 2", x.apart(0, 2), 10 + 20);
        due("of all COUNTED", x.apart(0, NONE), 150 + 30);
        x.lean(50);
        due("without LEAN", x.apart(0, NONE), 150 + 30);
        due("no such LAW", x.apart(4, 0), NONE);
        due("no such LAW", x.apart(-1, NONE), NONE);
        due("no such BABY", x.apart(0, 3), NONE);
        due("no such BABY", x.apart(0, -2), NONE);
        promise = "38";
        due("of BABY 1", x.nearest(1), 1);
        due("of BABY 2", x.nearest(2), 3);
        due("of BABY 0: 0 and 3 are like", x.nearest(0), 0);
        due("of all", x.nearest(NONE), 3);
        due("no such BABY", x.nearest(3), NONE);
        due("no such BABY", x.nearest(-2), NONE);
        Check.laws(x, "law a is 0;law b is 100;law c is 100;");
        due("of like ones the least", x.nearest(NONE), 1);
        x.leave(0, true);
        due("not who is LEFT", x.apart(1, NONE), 30);
        x.leave(2, true);
        due("none COUNTED: none", x.nearest(NONE), NONE);
        due("none COUNTED: of a BABY", x.nearest(0), 1);
        promise = "37";
        due("none COUNTED", x.apart(1, NONE), 0);
        x.cried(0, 0);
        due("all missing", x.apart(1, 0), 0);
        promise = "38";
        due("all missing", x.nearest(0), 0);
        refusals(x, 0, 0, 0);
    }

    private static void books() {
        promise = "39";
        LookTimes x = Scene.planned(0, 1);
        no("book(-1)", x.book(-1));
        no("book(17)", x.book(17));
        refusals(x, 0, 0, 2);
        due("none is written", x.kept(), NONE);
        yes("book(16)", x.book(16));
        yes("book(0)", x.book(0));
        promise = "40";
        due("kept", x.kept(), 0);
        Scene.looks(x, 0, 20, 1, 2);
        due("more BABIES", x.kept(), 16);
        x.book(2);
        due("fewer BABIES", x.kept(), 8);
        x.book(1);
        due("kept", x.kept(), 0);
        x.rule(21, 600, 0);
        due("another W", x.kept(), 1);
        x.rule(20, 599, 0);
        due("another MOST", x.kept(), 1);
        x.rule(20, 600, 1);
        due("another LEAST", x.kept(), 1);
        x.rule(20, 600, 0);
        due("the same again", x.kept(), 0);
        x.reading(0, 300);
        due("another CAP, READING 0", x.kept(), 0);
        x.reading(1, 200);
        due("another READING", x.kept(), 2);
        x.book(1);
        due("kept", x.kept(), 0);
        x.reading(1, 201);
        due("another CAP, READING 1", x.kept(), 2);
        x.reading(2, 200);
        due("another READING", x.kept(), 2);
        x.reading(1, 200);
        Check.laws(x, "law");
        due("a FAULT brings no LAWS", x.kept(), 0);
        Check.laws(x, "out if 0;");
        due("CLAUSES came", x.kept(), 4);
        x.leave(0, true);
        due("LEFT", x.kept(), 36);
        x.lean(-1);
        due("LEANS", x.kept(), 100);
        x.book(9);
        due("what still holds behind a new BOOK", x.kept(), 104);
        x.lean(0);
        x.leave(0, false);
        x.rule(5, 10, 0);
        x.reading(3, 200);
        due("all that isn't", x.kept(), 11);
        x.book(3);
        no("book(99)", x.book(99));
        due("the old BOOK stays", x.kept(), 8);
    }

    private static void images() {
        promise = "41";
        LookTimes x = Scene.planned(0, 1);
        Scene.looks(x, 0, 20, 100, 200);
        Scene.looks(x, 1, 30, 300, 200);
        no("image(-1)", x.image(-1));
        no("image(3)", x.image(3));
        promise = "42";
        no("restore(-1)", x.restore(-1));
        no("restore(3)", x.restore(3));
        no("restore(0) without", x.restore(0));
        refusals(x, 5, 0, 0);
        promise = "41";
        x.leave(1, true);
        x.cried(0, 1);
        x.rule(30, 250, 2);
        x.lean(4);
        x.reading(1, 190);
        yes("image(2)", x.image(2));
        promise = "42";
        x.book(2);
        x.leave(1, false);
        x.leave(0, true);
        x.cried(0, NONE);
        x.cried(1, 0);
        x.gaze(0, 0, 40);
        x.gaze(0, 0, 9);
        x.rule(5, 30, 50);
        x.lean(-4);
        x.reading(2, 30);
        Scene.looks(x, 2, 40, 7, 7);
        x.screen(0, 0, 0, 0);
        x.plan();
        x.liked(0, 8);
        Check.laws(x, "law a is liked;");
        yes("image(0)", x.image(0));
        yes("restore(2)", x.restore(2));
        due("BABIES", x.count(2), 2);
        due("LEFT", x.count(6), 1);
        due("RULE, READING and CAP as the BOOK has them, one LEFT, LEANS, LAWS came", x.kept(), 4 + 32 + 64);
        due("no new GAZE", x.length(0, 0), 100);
        due("CRIED", x.length(0, 1), NONE);
        due("CRIED not, LEANS", x.length(1, 1), 204);
        due("CAP", x.read(1, 1), 190);
        due("SCREENS stay", x.count(0), 5);
        due("PLANS stay", x.count(1), 2);
        due("LAWS and LIKES stay", x.says(0, 0, 0, 20), 8);
        due("GAZES go on from there", x.gaze(0, 0, 1), 2);
        yes("restore(2) again", x.restore(2));
        due("the IMAGE is as it was", x.gaze(0, 0, 1), 2);
        due("a BABY in place of one that is gone", Scene.looks(x, 3, 50, 5), 2);
        due("has no old GAZE", x.length(2, 1), NONE);
        due("is not LEFT", x.leave(2, true) ? 1 : 0, 1);
        yes("restore(0)", x.restore(0));
        due("BABIES", x.count(2), 3);
        due("LENGTH by RULE 5, 30, 50", x.length(0, 0), 30);
        due("with LEAN -4", x.length(0, 1), 26);
        due("LEFT", x.leave(0, false) ? 1 : 0, 1);
        due("READING 2", x.read(0, 0), 50);
        due("CRIED", x.length(1, 0), NONE);
        no("restore(1)", x.restore(1));
        refusals(x, 6, 0, 0);
        promise = "41";
        x.lean(0);
        yes("image(0) anew", x.image(0));
        x.lean(9);
        x.restore(0);
        due("the newer one", x.length(0, 1), 30);
    }

    private static void plansBehindImages() {
        promise = "42";
        LookTimes x = Scene.planned(0, 1);
        x.image(0);
        Scene.looks(x, 0, 20, 100, 200);
        x.image(1);
        x.restore(0);
        due("no BABY has the PLAN", x.trial(0, 2), 3);
        due("a BABY", x.baby(0, 0, 20), 0);
        x.gaze(0, 2, 70);
        x.restore(1);
        due("the TRIAL that came has no GAZE", x.length(0, 2), NONE);
        due("but may have one", x.gaze(0, 2, 50), 1);
        due("DIFFERENCE", x.difference(0), 200 * 2 - 150);
        due("a BABY has the PLAN", x.trial(0, 2), NONE);
        refusals(x, 0, 0, 1);
        LookTimes y = Scene.planned(0, 1);
        y.plan();
        y.trial(1, 2);
        y.image(0);
        y.baby(0, 3, 40);
        y.leave(0, true);
        y.image(1);
        y.restore(0);
        y.baby(1, 4, 50);
        y.image(2);
        y.restore(1);
        Check.laws(y, "out if age=40;out if house=3;");
        due("AGE", y.out(0, 1), 0);
        due("its PLAN", y.gaze(0, 1, 9), 1);
        due("LEFT", y.count(6), 1);
        Check.laws(y, "out if house=3;");
        due("HOUSE", y.out(0, 1), 0);
        y.restore(2);
        due("the other's HOUSE", y.out(0, 1), NONE);
        due("the other's PLAN", y.gaze(0, 1, 9), NONE);
        due("LEFT", y.count(6), 0);
        Check.laws(y, "out if age=50;");
        due("the other's AGE", y.out(0, 1), 0);
    }

    private static void statuses() {
        promise = "43";
        LookTimes x = new LookTimes();
        due("status(-1)", x.status(-1), NONE);
        due("status(3)", x.status(3), NONE);
        x.on(0, 0);
        x.row(0, 0);
        x.length(0, 0);
        x.read(0, 0);
        x.says(0, 0, 0, 0);
        x.out(0, 0);
        x.difference(0);
        x.odds(9);
        x.after(9);
        x.leaving(0);
        x.house(9, 9);
        x.joined(9);
        x.span(99, 0);
        x.worlds(0, 0, 0, 0);
        x.parts(0, 0, 0, 0);
        x.next(0, 0, 0);
        x.fresh(9);
        x.settled(0);
        x.apart(0, 0);
        x.nearest(0);
        x.kept();
        x.fault();
        x.count(9);
        refusals(x, 0, 0, 0);
        x.trial(0, 0);
        x.cried(0, 0);
        x.leave(0, true);
        x.gaze(0, 0, 0);
        refusals(x, 4, 0, 0);
    }

    private static void counts() {
        promise = "44";
        LookTimes x = Scene.planned(0, 1);
        x.plan();
        Scene.looks(x, 0, 20, 1);
        Scene.looks(x, 0, 20, 1);
        Scene.looks(x, 0, 20, 1);
        x.leave(0, true);
        x.leave(2, true);
        Check.laws(x, "law a is 1;law b is 1;law c is 1;law d is 1;law e is 1;out if 0;out if 0;out if 0;");
        Check.write(x, "1234567");
        int[] due = {4, 2, 3, 5, 3, 7, 2};
        for (int what = 0; what < 7; what++) {
            due("count(" + what + ")", x.count(what), due[what]);
        }
        due("count(7)", x.count(7), NONE);
        due("count(-1)", x.count(-1), NONE);
    }
}
