import java.io.IOException;
import java.nio.file.Files;
import java.nio.file.Path;
import java.util.ArrayList;
import java.util.BitSet;
import java.util.List;
import java.util.regex.Matcher;
import java.util.regex.Pattern;

/**
 * The document's sentences that name no bound, each with answers worked by hand; and that the tests together quote
 * the document from its terms to its last promise, so that none of it goes untested, or changes unseen.
 */
public final class SentencesTest {
    private static final int NONE = -1;
    private static final int VOID = Integer.MIN_VALUE;

    public static void main(String[] args) throws IOException {
        rowsOfScreens();
        names();
        namesInLaws();
        namesInClauses();
        differences();
        readsAndOdds();
        afterKnowing();
        houses();
        houseLeftOut();
        leaning();
        drawnWorlds();
        partedPlans();
        nextRows();
        freshness();
        offs();
        nearestLaws();
        bookOfWhat();
        keptOrNot();
        refused();
        constants();
        textsAndLaws();
        thingsAreNumbered();
        looksAndCrying();
        howLooksAreMeasured();
        imagesAndWhatStays();
        wholeDocument();
        Check.close("SentencesTest");
    }

    private static void rowsOfScreens() {
        Check.sentence("PLANS (at most 4, numbers as they come) are rows of SCREENS (at most 8, none at first): TRIALS 0, 1, ..");
        LookTimes x = Scene.staged();
        Check.due("the first PLAN", Scene.addPlan(x, 3, 1, 3), 0);
        Check.due("the second PLAN", Scene.addPlan(x), 1);
        Check.due("TRIAL 0", x.row(0, 0), 3);
        Check.due("TRIAL 1", x.row(0, 1), 1);
        Check.due("TRIAL 2", x.row(0, 2), 3);
        Check.due("TRIALS of each", x.row(0, NONE) * 10 + x.row(1, NONE), 30);
    }

    private static void names() {
        Check.sentence("The names: odd fresh much last order tired liked age house total longest trials.");
        String[] names = "odd fresh much last order tired liked age house total longest trials".split(" ");
        for (String name : names) {
            Check.due("law a is " + name, Check.faultOf("law a is " + name + ";"), NONE);
            Check.due("out if " + name, Check.faultOf("out if " + name + ";"), NONE);
            Check.due("law " + name, Check.faultOf("law " + name + " is 1;"), 4);
            Check.due("one letter less", Check.faultOf("law a is " + name.substring(1) + ";"), 9);
            Check.due("one letter more", Check.faultOf("law a is " + name + "s;"), 9);
        }
        for (String word : new String[] {"law", "is", "out", "if", "shown", "kind", "screen", "baby", "plan", "a"}) {
            Check.due("law a is " + word, Check.faultOf("law a is " + word + ";"), 9);
        }
    }

    /** What LAW 0 SAYS of each TRIAL of PLAN 0 for AGE 33. */
    private static void says(LookTimes x, String e, int... due) {
        Check.due("LAWS", Check.laws(x, "law a is " + e + ";"), 1);
        for (int trial = 0; trial < due.length; trial++) {
            Check.due(e + ", TRIAL " + trial, x.says(0, 0, trial, 33), due[trial]);
        }
    }

    private static void namesInLaws() {
        LookTimes x = Scene.planned(1, 0, 2, 3, 1, 1);
        x.liked(1, 50);
        x.liked(3, 99);
        x.baby(0, 4, 20);
        x.world(NONE, 1);
        Check.sentence(", with odd (1 if the SCREEN is ODD, else 0), fresh (how many TRIALS ahead have the same SCREEN)");
        says(x, "odd", 1, 0, 0, 1, 1, 1);
        says(x, "fresh", 0, 0, 0, 0, 1, 2);
        says(x, "much", 1, 2, 5, 5, 1, 1);
        says(x, "last", 0, 0, 0, 1, 0, 1);
        Check.sentence(", order (its number), tired");
        says(x, "order", 0, 1, 2, 3, 4, 5);
        // 99, then 90, 81, 72, 65, 59: by tens of all that was said ahead.
        says(x, "99-tired", 99, 90, 81, 72, 65, 59);
        says(x, "liked", 50, 0, 0, 99, 50, 50);
        says(x, "age", 33, 33, 33, 33, 33, 33);
        Check.sentence("liked (of its KIND), age; all others 0.");
        says(x, "house+total+longest+trials", 0, 0, 0, 0, 0, 0);
    }

    private static void namesInClauses() {
        Check.sentence("age, house, total (of its LENGTHS), longest (of them), trials (how many aren't missing); all others 0.");
        LookTimes x = Scene.planned(1, 0, 2, 3, 1);
        x.liked(1, 50);
        Scene.looks(x, 4, 33, 100, 20, 0, 300, 80);
        x.cried(0, 4);
        x.lean(7);
        String[] same = {"age=33", "house=4", "total=434", "longest=307", "trials=3", "odd+fresh+much+last+order+tired+liked=0"};
        for (String e : same) {
            Check.laws(x, "out if 0;out if " + e + ";");
            Check.due(e, x.out(0, 1), 1);
        }
    }

    private static void differences() {
        Check.sentence("The DIFFERENCE of a BABY: with a the READINGS of its ODD TRIALS together and m how many these are, b and n "
            + "of the others (of TRIALS that aren't missing):");
        LookTimes x = Scene.planned(1, 0, 0, 3, 2);
        Scene.looks(x, 0, 33, 200, 100, 40, 0, 31);
        Check.due("one of two ODD, three others", x.difference(0), 200 * 3 - 171);
        x.gaze(0, 3, 60);
        Check.due("two ODD, three others", x.difference(0), 260 * 3 - 171 * 2);
        x.reading(1, 50);
        Check.due("READING 1", x.difference(0), 100 * 3 - 121 * 2);
        x.reading(2, 50);
        // 8 and 6 digits; 7, 6 and 5 digits.
        Check.due("READING 2", x.difference(0), 140 * 3 - 180 * 2);
        x.reading(3, 50);
        // Of 200: 100 and 30; 50, 20 and 15.
        Check.due("READING 3", x.difference(0), 130 * 3 - 85 * 2);
        Check.sentence("The DIFFERENCE of a BABY; VOID if there is none, or none such.");
        x.cried(0, 1);
        Check.due("none", x.difference(0), VOID);
        Check.due("none such", x.difference(1), VOID);
        x.cried(0, 2);
        Check.due("there is one", x.difference(0), 100 - 50);
    }

    private static void readsAndOdds() {
        Check.sentence("Its READING; NONE likewise.");
        LookTimes x = Scene.planned(1, 0, 1);
        Scene.looks(x, 2, 33, 31, 0, 64);
        x.reading(2, 10);
        Check.due("five digits", x.read(0, 0), 50);
        Check.due("seven digits", x.read(0, 2), 70);
        Check.due("missing", x.read(0, 1), NONE);
        Check.due("no such TRIAL", x.read(0, 3), NONE);
        Check.due("no such BABY", x.read(1, 0), NONE);
        Check.sentence("0 how many are COUNTED, 1 SUM, 2 ODDS (ways), 3 of 1000.");
        // 7, 11, -4, -4: {}, each and both of -4, 7 with both: 5 of 16.
        LookTimes y = Scene.differing(7, 11, -4, -4);
        int[] due = {4, 10, 5, 312};
        for (int what = 0; what < 4; what++) {
            Check.due("odds(" + what + ")", y.odds(what), due[what]);
        }
    }

    private static void afterKnowing() {
        Check.sentence("AFTER knowing: of W 5");
        Check.sentence("AFTER: 0 W, 1 MOST, 2 the READING, 3 ODDS then of 1000");
        // AWAY of 9 ends the look at what is ODD by W 5 alone; then, and only then, the others are longer.
        LookTimes x = Scene.planned(0, 1);
        for (int i = 0; i < 6; i++) {
            x.baby(0, i, 20);
            x.gaze(i, 0, 140);
            x.gaze(i, 1, 120);
            x.gaze(i, 1, 9);
            x.gaze(i, 1, 80);
        }
        x.rule(5, 600, 0);
        Check.due("as it is", x.odds(3), 1000);
        x.book(6);
        Check.due("W", x.after(0), 10);
        Check.due("MOST", x.after(1), 150);
        Check.due("the READING", x.after(2), 0);
        Check.due("of 1000", x.after(3), 15);
        // W 10, 20, 40: READINGS 0 and 3 with each MOST; by digits both have eight; CAP 200 with MOST 150, 300, 600.
        Check.due("below 50", x.after(4), 3 * 3 * 3);
        Check.sentence("4 how many of all 48 have ODDS of 1000 below 50. NONE for others.");
        Check.due("what 5", x.after(5), NONE);
        Check.due("all as it was", x.kept(), 0);
    }

    private static void houses() {
        Check.sentence("A HOUSE's SUM is that of its COUNTED BABIES.");
        LookTimes x = Scene.planned(0, 1);
        Scene.looks(x, 2, 10, 100, 130);
        Scene.looks(x, 2, 20, 100, 95);
        Scene.looks(x, 2, 30, 100, 107);
        Scene.looks(x, 3, 40, 100, 300);
        Scene.looks(x, 2, 50, 100, 0);
        Check.due("SUM", x.house(2, 1), 32);
        Check.due("COUNTED", x.house(2, 0), 3);
        Check.laws(x, "out if age=20;");
        Check.due("SUM without who is OUT", x.house(2, 1), 37);
        x.leave(0, true);
        Check.due("SUM without who is LEFT", x.house(2, 1), 7);
        Check.due("COUNTED", x.house(2, 0), 1);
        Check.due("another HOUSE", x.house(3, 1), 200);
    }

    private static void houseLeftOut() {
        Check.sentence("JOINED: ODDS of 1000 without each HOUSE that has some COUNTED (all others there): the least and the greatest.");
        LookTimes x = Scene.planned(0, 1);
        Scene.looks(x, 0, 20, 100, 105);
        Scene.looks(x, 0, 20, 100, 106);
        Scene.looks(x, 4, 20, 100, 90);
        Scene.looks(x, 5, 20, 100, 103);
        // Without 0: {-10, 3}: 3 of 4. Without 4: 1 of 8. Without 5: {5, 6, -10}: {}, {-10}, two with one more: 4 of 8.
        Check.due("the least", x.joined(0), 125);
        Check.due("the greatest", x.joined(1), 750);
        x.leave(2, true);
        // HOUSE 4 has none COUNTED: without it all would be 1 of 8. Without 0: 1 of 2. Without 5: 1 of 4.
        Check.due("the least", x.joined(0), 250);
        Check.due("the greatest", x.joined(1), 500);
    }

    private static void leaning() {
        Check.sentence("ODDS of 1000 with a WATCHER who LEANS from -l to l");
        // Without LEAN {4, -2}: 2 of 4; LEAN 1 {5, -1}: 2; LEAN 2 {6, 0}: 2; LEAN 3: 1; LEAN -1 {3, -3}: 3; LEAN -4 {0, -6}: 4.
        LookTimes x = Scene.differing(4, -2);
        int[][] due = {{500, 500}, {500, 750}, {500, 750}, {250, 750}, {250, 1000}};
        for (int l = 0; l < due.length; l++) {
            Check.due("the least, l " + l, x.span(l, 0), due[l][0]);
            Check.due("the greatest, l " + l, x.span(l, 1), due[l][1]);
        }
    }

    private static void drawnWorlds() {
        Check.sentence("a GAZE of one LOOK: what it SAYS for its AGE, and a lot below 2S + 1, less S; times L");
        // Seed 1: x is 1103527590, by 256 4310654, rest by 11 is 7: 7 less 5. Then 377401575, by 256 1474224, rest by 16 is 0.
        LookTimes x = Scene.planned(0);
        x.baby(0, 0, 10);
        x.baby(0, 0, 30);
        Check.laws(x, "law a is 5*age;");
        x.spread(5, 2);
        Check.due("two LOOKS", x.world(0, 1), 2);
        Check.due("of AGE 10", x.length(0, 0), (50 + 7 - 5) * 2);
        // Then 662824084, by 256 2589156, rest by 11 is 9; then 1147902781, by 256 4483995, rest by 16 is 11.
        Check.due("of AGE 30", x.length(1, 0), 150 + 9 - 5);
        Check.sentence("A WORLD (law NONE: none) in place of all GAZES: how many LOOKS; NONE (REFUSED).");
        Check.due("none", x.world(NONE, 1), 2);
        Check.due("100 of all", x.length(0, 0), (100 + 7 - 5) * 2);
        Check.due("100 of all", x.length(1, 0), 100 + 9 - 5);
        Check.due("one LOOK alone", x.gaze(0, 0, 50), 2);
        Check.due("no such LAW", x.world(1, 1), NONE);
        Check.due("REFUSED", x.status(0), 1);
        Check.sentence("SPREAD and LONG: true; false (REFUSED).");
        Check.yes("spread(0, 3)", x.spread(0, 3));
        x.world(NONE, 1);
        Check.due("no SPREAD, LONG", x.length(0, 0), 300);
        Check.no("spread(0, 6)", x.spread(0, 6));
        Check.due("REFUSED", x.status(2), 1);
    }

    private static void partedPlans() {
        Check.sentence("A PLAN PARTS two LAWS, for an AGE, if what they SAY of its TRIALS has DIFFERENCES (READING 0) of unlike signs");
        LookTimes x = Scene.planned(1, 0, 0, 3);
        // By READING 1, 2 or 3 the DIFFERENCES of both would be 0, above 0 or else.
        x.reading(1, 10);
        x.lean(-50);
        x.liked(1, 1);
        x.liked(0, 40);
        Check.laws(x, "law a is 40+liked;law b is (20<age)*odd+70;law c is 70;law d is 90-tired;");
        // LAW 0: 41, 80, 80, 40. LAW 1: 71, 70, 70, 71 above AGE 20. LAW 3: 90, 81, 73, 66: 156 and 154.
        Check.due("below, above", x.parts(0, 0, 1, 21), 1);
        Check.due("below, 0", x.parts(0, 0, 1, 20), 1);
        Check.due("above, 0", x.parts(0, 1, 2, 21), 1);
        Check.due("0, 0", x.parts(0, 1, 2, 20), 0);
        Check.due("above, above", x.parts(0, 1, 3, 21), 0);
        Check.due("0, above", x.parts(0, 2, 3, 21), 1);
    }

    private static void nextRows() {
        Check.sentence("NEXT for an AGE, of at most m: how many SCREENS (k NONE), the k-th, or (k -2) how many couples");
        LookTimes x = Scene.staged();
        // Only SCREEN 3 first, then SCREEN 2, has as many SHOWN behind it in a TRIAL that isn't ODD.
        Check.laws(x, "law a is 50;law b is 50+last*(odd=0)*(age-20);");
        Check.due("how many", x.next(2, 30, NONE), 2);
        Check.due("SCREEN 0", x.next(2, 30, 0), 3);
        Check.due("SCREEN 1", x.next(2, 30, 1), 2);
        Check.due("couples", x.next(2, 30, -2), 1);
        Check.due("for AGE 20 none is parted", x.next(2, 20, -2), 0);
        Check.due("the first row then", x.next(2, 20, 0) * 10 + x.next(2, 20, 1), 1);
    }

    private static void freshness() {
        Check.sentence("FRESH: the mean LENGTH (cut) of all TRIALS of BABIES that aren't OUT, with so many TRIALS ahead that have "
            + "the same SCREEN.");
        LookTimes x = Scene.planned(0, 0, 1, 0);
        Scene.addPlan(x, 1, 1);
        Scene.looks(x, 0, 20, 100, 60, 200, 31);
        Scene.looksOf(x, 1, 0, 30, 150, 71);
        Scene.looksOf(x, 1, 0, 40, 600, 600);
        Check.laws(x, "out if age=40;");
        Check.due("none ahead", x.fresh(0), 450 / 3);
        Check.due("one ahead", x.fresh(1), 131 / 2);
        Check.due("two ahead", x.fresh(2), 31);
        x.leave(0, true);
        Check.due("LEFT isn't OUT", x.fresh(2), 31);
        Check.laws(x, "out if age=20;");
        Check.due("another is OUT", x.fresh(1), 671 / 2);
        Check.due("no such TRIAL", x.fresh(2), NONE);
    }

    private static void offs() {
        Check.sentence("OFF is of a LAW, over TRIALS that aren't missing of all COUNTED BABIES, how far LENGTH (without LEAN) and what "
            + "it SAYS are apart, together.");
        LookTimes x = Scene.planned(0, 1, 0);
        Scene.looks(x, 0, 20, 90, 130, 0);
        Scene.looks(x, 0, 30, 50, 40, 101);
        Scene.looks(x, 0, 40, 400, 0, 0);
        Scene.looks(x, 0, 50, 500, 500, 500);
        Check.laws(x, "law a is 80+age+10*order;out if age=50;");
        // AGE 20: 100, 110. AGE 30: 110, 120, 130. AGE 40: 120, and no DIFFERENCE. AGE 50: 130, 140, 150, and OUT.
        int[] own = {10 + 20, 60 + 80 + 29, 280, 370 + 360 + 350};
        Check.due("of all COUNTED", x.apart(0, NONE), own[0] + own[1]);
        Check.sentence("A BABY's own is the same for it alone.");
        for (int baby = 0; baby < 4; baby++) {
            Check.due("of BABY " + baby, x.apart(0, baby), own[baby]);
        }
        x.lean(-50);
        Check.due("without LEAN", x.apart(0, NONE), own[0] + own[1]);
        x.reading(2, 10);
        Check.due("by LENGTH, whatever the READING", x.apart(0, 0), own[0]);
        x.leave(0, true);
        Check.due("without who is LEFT", x.apart(0, NONE), own[1]);
        x.cried(1, 1);
        Check.due("none is COUNTED", x.apart(0, NONE), 0);
        Check.due("of BABY 1, CRYING", x.apart(0, 1), 60);
        x.rule(20, 30, 0);
        Check.due("of BABY 1, MOST 30", x.apart(0, 1), 80);
    }

    private static void nearestLaws() {
        Check.sentence("The NEAREST LAW of all (baby NONE), or of a BABY; NONE if there is none");
        LookTimes x = Scene.planned(0, 1);
        Scene.looks(x, 0, 20, 50, 60);
        Scene.looks(x, 0, 20, 200, 240);
        Check.due("there is none", x.nearest(NONE), NONE);
        Check.laws(x, "law a is 10;law b is 55;law c is 220;law d is 210;");
        Check.due("of BABY 0", x.nearest(0), 1);
        // 40 by LAW 2 (20 and 20) and by LAW 3 (10 and 30): the least number.
        Check.due("of BABY 1", x.nearest(1), 2);
        // 510, 340, 370, 350.
        Check.due("of all", x.nearest(NONE), 1);
        x.leave(0, true);
        Check.due("of all COUNTED", x.nearest(NONE), 2);
    }

    private static void bookOfWhat() {
        Check.sentence("A BOOK is written of the RULE, READING, CAP, and how many BABIES there shall be.");
        LookTimes x = Scene.planned(0, 1);
        x.rule(7, 70, 3);
        x.reading(1, 99);
        Check.yes("book(2)", x.book(2));
        Check.due("BABIES are to come", x.kept(), 8);
        x.baby(0, 0, 8);
        Check.due("one more is to come", x.kept(), 8);
        x.baby(0, 0, 8);
        Check.due("as it was written", x.kept(), 0);
        x.screen(0, 0, 0, 0);
        x.plan();
        x.liked(2, 5);
        x.spread(9, 2);
        x.world(NONE, 5);
        x.cried(0, 1);
        x.image(0);
        Check.due("of nothing else", x.kept(), 0);
    }

    private static void keptOrNot() {
        Check.sentence("KEPT it isn't: 1 another W, MOST or LEAST; 2 another READING, or (with READING 1) CAP; 4 LAWS and CLAUSES came "
            + "since; 8 fewer BABIES, 16 more; 32 some BABY is LEFT out by hand; 64 a WATCHER LEANS (bits).");
        LookTimes x = Scene.differing(1, 2, 3);
        x.image(0);
        x.book(3);
        for (int bits = 0; bits < 32; bits++) {
            x.restore(0);
            x.rule((bits & 1) != 0 ? 21 : 20, 600, 0);
            x.reading((bits & 2) != 0 ? 2 : 0, 200 + bits);
            x.lean((bits & 4) != 0 ? -9 : 0);
            if ((bits & 8) != 0) {
                x.leave(2, true);
            }
            if ((bits & 16) != 0) {
                x.baby(0, 0, 8);
            }
            int want = (bits & 3) + (bits & 4) * 16 + (bits & 8) * 4 + (bits & 16);
            Check.due("kept " + bits, x.kept(), want);
        }
        x.restore(0);
        Check.laws(x, "out if 0;");
        Check.due("LAWS came", x.kept(), 4);
        x.restore(0);
        Check.due("an IMAGE takes no LAWS back", x.kept(), 4);
        x.book(4);
        Check.due("a new BOOK, for four", x.kept(), 8);
    }

    private static void refused() {
        Check.sentence("REFUSED is each call that would change something and doesn't: by 0");
        LookTimes x = Scene.rich();
        int none = 0;
        none += x.baby(9, 0, 20) + x.trial(9, 0) + x.gaze(9, 0, 1) + x.world(9, 1) + x.screen(0, 0, 0, 9);
        Check.due("five answer NONE", none, -5);
        Check.no("five more answer false",
            x.cried(9, 0) || x.leave(9, true) || x.liked(9, 0) || x.image(9) || x.restore(9));
        Check.due("ten there is none such", x.status(0), 10);
        Check.no("false", x.end(99) || x.rule(0, 0, 0) || x.lean(99) || x.reading(9, 9) || x.spread(0, 0) || x.book(99));
        Check.due("six that can't be otherwise", x.status(2), 6);
        Check.due("none for room", x.status(1), 0);
        Check.sentence("What is refused changes nothing else.");
        Check.yes("all answers are as they were", Seen.of(x).equals(Seen.of(Scene.rich())));
    }

    private static void constants() {
        Check.sentence("`NONE = -1`: There is none.");
        Check.due("NONE", LookTimes.NONE, -1);
        Check.sentence("`VOID = -2147483648`: There is none of what may be below 0.");
        Check.due("VOID", LookTimes.VOID, -2147483648L);
        LookTimes x = new LookTimes();
        Check.due("on, difference, odds, house may be below 0", x.on(0, 0), VOID);
        Check.due("difference", x.difference(0), VOID);
        Check.due("odds", x.odds(4), VOID);
        Check.due("house", x.house(6, 0), VOID);
    }

    private static void textsAndLaws() {
        Check.sentence("`int fault()`: The FAULT.");
        Check.due("behind the first LINE", Check.faultOf("law a is 1;\nlaw b is 2 +;\n"), 24);
        Check.sentence("The text, which is empty then, gives LAWS and CLAUSES in place of those ahead: how many LAWS; NONE (REFUSED) "
            + "with a FAULT (it stays).");
        LookTimes x = Scene.planned(0, 1);
        Scene.looks(x, 0, 20, 3, 4);
        Check.due("two LAWS", Check.laws(x, "out if 1;law a is 11;law b is 22;"), 2);
        Check.due("bytes", x.count(5), 0);
        Check.due("OUT", x.out(0, 0), 1);
        Check.due("one LAW", Check.laws(x, "law c is 33;"), 1);
        Check.due("OUT no more", x.out(0, 0), 0);
        Check.due("in place of", x.says(0, 0, 0, 20), 33);
        Check.due("of two", x.says(1, 0, 0, 20), NONE);
        Check.due("a FAULT", Check.laws(x, "law d is 44; law"), NONE);
        Check.due("it stays", x.count(5), 16);
        Check.due("as it was", x.says(0, 0, 0, 20), 33);
        Check.yes("end(12)", x.end(12));
        Check.due("without the FAULT", x.laws(), 1);
        Check.due("then", x.says(0, 0, 0, 20), 44);
    }

    private static void thingsAreNumbered() {
        LookTimes x = new LookTimes();
        Check.sentence("A KIND is LIKED so much: true; false (REFUSED).");
        Check.yes("liked(3, 30)", x.liked(3, 30));
        Check.no("liked(3, 100)", x.liked(3, 100));
        Check.sentence("A SCREEN: its number; NONE (REFUSED).");
        Check.due("first", x.screen(2, 1, 3, 3), 0);
        Check.due("second", x.screen(2, 1, 4, 1), 1);
        Check.due("none", x.screen(2, 8, 4, 1), NONE);
        Check.due("third", x.screen(2, -2, 0, 3), 2);
        Check.sentence("A PLAN without TRIALS: its number; NONE (REFUSED).");
        for (int i = 0; i < 5; i++) {
            Check.due("PLAN " + i, x.plan(), i < 4 ? i : NONE);
            Check.due("TRIALS of " + i, x.row(i, NONE), i < 4 ? 0 : NONE);
        }
        Check.sentence("A SCREEN is the last TRIAL of a PLAN: how many it has;");
        Check.due("one", x.trial(2, 1), 1);
        Check.due("two", x.trial(2, 0), 2);
        Check.due("the last", x.row(2, 1), 0);
        Check.due("the first", x.row(2, 0), 1);
        Check.sentence("A BABY: its number; NONE (REFUSED).");
        Check.due("first", x.baby(2, 5, 60), 0);
        Check.due("none", x.baby(2, 5, 61), NONE);
        Check.due("second", x.baby(0, 0, 8), 1);
        Check.due("PLAN, HOUSE and AGE", Check.laws(x, "out if (age=60)*(house=5);"), 0);
        Check.due("first is OUT", x.out(0, 0), 1);
        Check.due("second isn't", x.out(1, 0), 0);
        Check.due("first has two TRIALS", x.gaze(0, 1, 5), 1);
        Check.due("second has none", x.gaze(1, 0, 5), NONE);
        Check.due("none such", x.status(0), 1);
        Check.due("no room", x.status(1), 1);
        Check.due("can't be", x.status(2), 3);
    }

    private static void looksAndCrying() {
        LookTimes x = Scene.planned(1, 0, 1);
        Scene.looks(x, 0, 20, 70, 80, 90);
        Check.sentence("A length comes to a GAZE: how many there are; NONE (REFUSED).");
        Check.due("AWAY", x.gaze(0, 1, 19), 2);
        Check.due("a LOOK", x.gaze(0, 1, 8), 3);
        Check.due("together", x.length(0, 1), 88);
        Check.due("none", x.gaze(0, 1, 0), NONE);
        Check.sentence("A BABY CRIED from a TRIAL on (trial NONE: not): true; false (REFUSED).");
        Check.yes("from 1 on", x.cried(0, 1));
        Check.due("0 is there", x.length(0, 0), 70);
        Check.due("1 is missing", x.length(0, 1), NONE);
        Check.due("2 is missing", x.length(0, 2), NONE);
        Check.yes("from 2 on", x.cried(0, 2));
        Check.due("1 is there", x.length(0, 1), 88);
        Check.no("from 3 on", x.cried(0, 3));
        Check.due("2 is missing still", x.length(0, 2), NONE);
        Check.yes("not", x.cried(0, NONE));
        Check.due("2 is there", x.length(0, 2), 90);
        Check.due("refused", x.status(0) * 10 + x.status(2), 11);
    }

    private static void howLooksAreMeasured() {
        LookTimes x = Scene.planned(1, 0);
        Scene.looks(x, 0, 20, 70, 80);
        x.gaze(0, 0, 12);
        x.gaze(0, 0, 30);
        Check.sentence("The RULE: true; false (REFUSED).");
        Check.due("by W 20", x.length(0, 0), 100);
        Check.yes("W 12", x.rule(12, 600, 0));
        Check.due("by W 12", x.length(0, 0), 70);
        Check.yes("W 13, MOST 95", x.rule(13, 95, 0));
        Check.due("by MOST 95", x.length(0, 0), 95);
        Check.no("MOST 9", x.rule(12, 9, 0));
        Check.due("still", x.length(0, 0), 95);
        Check.sentence("A WATCHER LEANS: true; false (REFUSED).");
        Check.yes("-20", x.lean(-20));
        Check.due("ODD", x.length(0, 0), 75);
        Check.due("not ODD", x.length(0, 1), 80);
        Check.no("-51", x.lean(-51));
        Check.due("still", x.length(0, 0), 75);
        Check.sentence("The READING, and CAP: true; false (REFUSED).");
        Check.yes("READING 3", x.reading(3, 60));
        Check.due("75 of 80", x.read(0, 0), 93);
        Check.yes("READING 1, CAP 60", x.reading(1, 60));
        Check.due("60", x.read(0, 0), 60);
        Check.no("READING 0, CAP 601", x.reading(0, 601));
        Check.due("still", x.read(0, 0), 60);
    }

    private static void imagesAndWhatStays() {
        Check.sentence("IMAGE k is kept: true; false (REFUSED).");
        LookTimes x = Scene.rich();
        Check.yes("image(1)", x.image(1));
        Check.no("image(3)", x.image(3));
        Check.sentence("IMAGE k is taken on again: true; false (REFUSED) if there is none.");
        Check.yes("restore(0)", x.restore(0));
        Check.due("four BABIES", x.count(2), 4);
        Check.yes("restore(1)", x.restore(1));
        Check.no("restore(3)", x.restore(3));
        Check.yes("all is as it was", withoutImage(Seen.of(x)).equals(withoutImage(Seen.of(Scene.rich()))));
        // LIKES, SCREENS, PLANS, LAWS, the text, SPREAD, LONG, the BOOK and what was REFUSED are in no IMAGE.
        LookTimes y = Scene.planned(0, 1);
        y.baby(0, 0, 20);
        y.image(0);
        y.liked(0, 77);
        y.screen(0, 0, 0, 0);
        y.plan();
        Check.laws(y, "law a is liked;");
        Check.write(y, "law");
        y.spread(0, 5);
        y.book(1);
        y.lean(99);
        Check.yes("restore(0)", y.restore(0));
        Check.due("LIKED, LAWS", y.says(0, 0, 0, 20), 77);
        Check.due("SCREENS", y.count(0), 5);
        Check.due("PLANS", y.count(1), 2);
        Check.due("bytes", y.count(5), 3);
        Check.due("the BOOK", y.kept(), 0);
        Check.due("REFUSED", y.status(2), 1);
        y.world(NONE, 1);
        // The second lot of seed 1 is 0.
        Check.due("LONG", y.length(0, 0), 500);
    }

    /** All answers up to those about IMAGE 1, which one of two objects lacks. */
    private static List<String> withoutImage(List<String> answers) {
        int from = 0;
        while (from < answers.size() && !answers.get(from).startsWith("restore 1 ")) {
            from++;
        }
        return answers.subList(0, from);
    }

    private static final Pattern QUOTED = Pattern.compile("Check\\.sentence\\(((?:\\s*\"(?:[^\"\\\\]|\\\\.)*\"\\s*\\+?)+)\\)");
    private static final Pattern PIECE = Pattern.compile("\"((?:[^\"\\\\]|\\\\.)*)\"");
    private static final Pattern FRAME = Pattern.compile("^.*?## Terms|## Promise \\d+: [\\w ]+? `[^`]*`:|```text|```|==== \\d\\."
        + "|The constants:|## Not promised.*$");

    /** Every letter of the terms and the promises stands in a sentence that some test quotes. */
    private static void wholeDocument() throws IOException {
        Path file = Path.of("../shared/DOC.md");
        if (!Files.exists(file)) {
            return;
        }
        String document = Files.readString(file).replaceAll("\\s+", " ");
        BitSet quoted = new BitSet();
        Matcher frame = FRAME.matcher(document);
        while (frame.find()) {
            quoted.set(frame.start(), frame.end());
        }
        for (String sentence : sentences()) {
            for (int at = document.indexOf(sentence); at >= 0; at = document.indexOf(sentence, at + 1)) {
                quoted.set(at, at + sentence.length());
            }
        }
        for (int from = quoted.nextClearBit(0); from < document.length();) {
            int to = quoted.nextSetBit(from) < 0 ? document.length() : quoted.nextSetBit(from);
            String left = document.substring(from, to);
            Check.no("no test quotes <" + left + ">", left.matches(".*[A-Za-z0-9].*"));
            from = quoted.nextClearBit(to);
        }
    }

    private static List<String> sentences() throws IOException {
        List<String> found = new ArrayList<>();
        try (var files = Files.list(Path.of("src/test/java"))) {
            for (Path file : files.filter(f -> f.toString().endsWith("Test.java")).toList()) {
                Matcher call = QUOTED.matcher(Files.readString(file));
                while (call.find()) {
                    StringBuilder sentence = new StringBuilder();
                    Matcher piece = PIECE.matcher(call.group(1));
                    while (piece.find()) {
                        sentence.append(piece.group(1).replace("\\\"", "\""));
                    }
                    found.add(sentence.toString());
                }
            }
        }
        return found;
    }
}
