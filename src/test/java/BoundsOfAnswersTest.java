import java.math.BigInteger;
import java.util.Arrays;

/** Sentence by sentence, the bounds of parts 4 to 6 of the document: ODDS, AFTER, WORLDS, NEXT, BOOKS and IMAGES. */
public final class BoundsOfAnswersTest {
    private static final int NONE = -1;
    private static final int VOID = Integer.MIN_VALUE;

    public static void main(String[] args) {
        differences();
        counted();
        odds();
        oddsOfMany();
        afterW();
        afterMost();
        afterReading();
        afterBelow();
        afterFractions();
        leavingLimits();
        leavingNumbers();
        leavingBits();
        houses();
        joined();
        span();
        spreads();
        lots();
        longLooks();
        worldOfNone();
        worldBehindCrying();
        worldsBounds();
        worldsLimits();
        parts();
        nextBounds();
        nextOrder();
        nextOfTwelve();
        fresh();
        settled();
        apart();
        nearest();
        books();
        images();
        imagesFull();
        statuses();
        Check.close("BoundsOfAnswersTest");
    }

    private static boolean in(int n, int from, int to) {
        return n >= from && n <= to;
    }

    private static void differences() {
        Check.sentence("a * n less b * m; none, if m or n is 0.");
        int[][] due = {{4, 600, 1, 9584}, {4, 1, 600, -9584}, {4, 600, 600, 0}, {1, 600, 1, 7 * 599}, {7, 600, 1, 7 * 599},
            {0, 600, 600, VOID}, {8, 600, 600, VOID}};
        for (int[] d : due) {
            LookTimes x = Scene.staged();
            int[] row = new int[8];
            int[] lengths = new int[8];
            for (int trial = 0; trial < 8; trial++) {
                row[trial] = trial < d[0] ? 1 : 0;
                lengths[trial] = trial < d[0] ? d[1] : d[2];
            }
            Scene.addPlan(x, row);
            Scene.looks(x, 0, 8, lengths);
            Check.due("DIFFERENCE with " + d[0] + " ODD ones", x.difference(0), d[3]);
            Check.due("COUNTED", x.odds(0), d[3] == VOID ? 0 : 1);
        }
        LookTimes x = Scene.planned(1, 0, 1, 0);
        Scene.looks(x, 0, 8, 50, 0, 50, 90);
        Check.due("a missing one isn't one of the others", x.difference(0), 100 - 180);
        x.cried(0, 3);
        Check.due("the other one is missing", x.difference(0), VOID);
        x.cried(0, NONE);
        x.rule(20, 600, 51);
        Check.due("the ODD ones are missing", x.difference(0), VOID);
        x.rule(20, 600, 50);
        x.lean(-50);
        Check.due("of 0 it is one", x.difference(0), -180);
        Check.due("no BABY 1", x.difference(1), VOID);
        Check.due("no BABY -1", x.difference(-1), VOID);
        LookTimes none = Scene.planned();
        none.baby(0, 0, 8);
        Check.due("a PLAN without TRIALS", none.difference(0), VOID);
    }

    private static void counted() {
        Check.sentence("COUNTED are BABIES that have one, aren't OUT, and weren't LEFT out by hand. SUM is that of theirs.");
        LookTimes x = Scene.differing(1, 2, 4, 8, 16);
        Check.due("all", x.odds(1), 31);
        x.leave(0, true);
        Check.due("one LEFT", x.odds(1), 30);
        Check.laws(x, "out if age=9;");
        Check.due("one OUT", x.odds(1), 28);
        x.cried(2, 1);
        Check.due("one without a DIFFERENCE", x.odds(1), 24);
        x.leave(1, true);
        Check.due("OUT and LEFT", x.odds(0), 2);
        x.leave(3, true);
        x.leave(4, true);
        Check.due("none", x.odds(0), 0);
        Check.due("SUM of none", x.odds(1), 0);
        Check.due("ODDS of none", x.odds(2), 1);
        Check.due("of 1000", x.odds(3), 1000);
        x.leave(4, false);
        Check.due("the last one", x.odds(1), 16);
        LookTimes nought = Scene.differing(0);
        Check.due("a DIFFERENCE of 0 is one", nought.odds(0), 1);
        Check.due("both ways have it", nought.odds(2), 2);
        Check.due("of 1000", nought.odds(3), 1000);
    }

    private static void odds() {
        Check.sentence("how many have at least that SUM; of 1000: a thousand times that, by all (cut).");
        int[][][] due = {{{5}, {1, 500}}, {{-5}, {2, 1000}}, {{5, 5}, {1, 250}}, {{5, -5}, {3, 750}}, {{5, -4}, {2, 500}},
            {{5, -6}, {3, 750}}, {{-5, -5}, {4, 1000}}, {{1, 2, -3}, {5, 625}}, {{1, 2, -2}, {4, 500}}, {{1, 2, -4}, {5, 625}},
            {{1, 1, 1, 1}, {1, 62}}, {{0, 1, 1, 1}, {2, 125}}, {{0, 0, 0, 1}, {8, 500}}, {{3, 3, 3, 3, 3}, {1, 31}},
            {{3, 3, 3, 3, 3, 3}, {1, 15}}, {{7, 7, 7, 7, 7, 7, 7, 7, 7}, {1, 1}}, {{7, 7, 7, 7, 7, 7, 7, 7, 7, 7}, {1, 0}}};
        for (int[][] d : due) {
            LookTimes x = Scene.differing(d[0]);
            String of = " of " + Arrays.toString(d[0]);
            Check.due("COUNTED" + of, x.odds(0), d[0].length);
            Check.due("SUM" + of, x.odds(1), Arrays.stream(d[0]).sum());
            Check.due("ways" + of, x.odds(2), d[1][0]);
            Check.due("of 1000" + of, x.odds(3), d[1][1]);
        }
        Check.sentence("VOID for others. (None COUNTED: 0, 0, 1, 1000.)");
        int[] none = {0, 0, 1, 1000};
        for (int what = -3; what <= 6; what++) {
            Check.due("odds(" + what + ")", new LookTimes().odds(what), in(what, 0, 3) ? none[what] : VOID);
        }
    }

    /** Sixteen BABIES of four ODD TRIALS and four others, all as far apart as can be. */
    private static void oddsOfMany() {
        Check.sentence("ODDS: of the 2 to the power of n ways to turn signs of n COUNTED BABIES' DIFFERENCES or not");
        LookTimes x = Scene.staged();
        Scene.addPlan(x, 1, 1, 1, 1, 0, 0, 0, 0);
        for (int i = 0; i < 16; i++) {
            x.baby(0, i % 6, 8);
        }
        Check.laws(x, "law a is 600*odd;law b is 600-600*odd;");
        Check.due("a WORLD", x.world(0, 0), 128);
        Check.due("COUNTED", x.odds(0), 16);
        Check.due("the greatest SUM", x.odds(1), 16 * 9584);
        Check.due("one way", x.odds(2), 1);
        Check.due("of 1000", x.odds(3), 0);
        Check.due("a WORLD", x.world(1, 0), 128);
        Check.due("the least SUM", x.odds(1), -16 * 9584);
        Check.due("every way", x.odds(2), 65536);
        Check.due("of 1000", x.odds(3), 1000);
        x.world(NONE, 0);
        Check.due("all 0", x.odds(2), 65536);
        int[] one = new int[16];
        one[15] = 1;
        Check.due("half of all", Scene.differing(one).odds(2), 32768);
        int[] powers = new int[8];
        for (int i = 0; i < 8; i++) {
            powers[i] = 1 << i;
        }
        powers[7] = -128;
        // Turned ones of 0 or less: none, or with -128 any of the others (127 at most).
        Check.due("by one that outdoes all others", Scene.differing(powers).odds(2), 129);
    }

    /** Five BABIES whose look at the ODD one goes on behind AWAY of this length: longer than the other just then. */
    private static LookTimes goesOn(int away) {
        LookTimes x = Scene.planned(1, 0);
        for (int i = 0; i < 5; i++) {
            Scene.looks(x, 0, 8, 100, 150);
            x.gaze(i, 0, away);
            x.gaze(i, 0, 200);
        }
        return x;
    }

    private static void afterW() {
        Check.sentence("of W 5, 10, 20, 40, each with MOST 150, 300, 600, each of these with READINGS 0 .. 3 (LEAST, CAP as "
            + "they are)");
        // Each W above AWAY, MOST 300 and 600, all four READINGS: 300 and 150, 200 and 150, 90 and 80, 100 and 50.
        int[][] due = {{4, 5, 32}, {5, 10, 24}, {9, 10, 24}, {10, 20, 16}, {19, 20, 16}, {20, 40, 8}, {39, 40, 8}, {40, 5, 0},
            {41, 5, 0}};
        for (int[] d : due) {
            LookTimes x = goesOn(d[0]);
            Check.due("W, AWAY " + d[0], x.after(0), d[1]);
            Check.due("MOST, AWAY " + d[0], x.after(1), d[2] == 0 ? 150 : 300);
            Check.due("READING, AWAY " + d[0], x.after(2), 0);
            Check.due("below 50, AWAY " + d[0], x.after(4), d[2]);
        }
    }

    private static void afterMost() {
        // Each W, each MOST of the longer one or more, READINGS 0, 1 (CAP 600) and 3.
        int[][] due = {{150, 150, 36}, {151, 300, 24}, {300, 300, 24}, {301, 600, 12}, {600, 600, 12}};
        for (int[] d : due) {
            LookTimes x = Scene.planned(1, 0);
            for (int i = 0; i < 5; i++) {
                Scene.looks(x, 0, 8, d[0], d[0] - 1);
            }
            x.reading(2, 600);
            x.rule(100, 10, 0);
            Check.due("MOST, LENGTH " + d[0], x.after(1), d[1]);
            Check.due("below 50, LENGTH " + d[0], x.after(4), d[2]);
        }
        LookTimes x = Scene.planned(1, 0);
        for (int i = 0; i < 5; i++) {
            Scene.looks(x, 0, 8, 600, 600);
            x.gaze(i, 0, 1);
            x.gaze(i, 0, 1);
        }
        Check.due("601 is over every MOST", x.after(4), 0);
    }

    private static void afterReading() {
        Check.sentence("that with the least ODDS as a fraction, of like ones the first in this order.");
        // 7 and 8: the digits part them as far as the LENGTHS do; all READINGS are like.
        LookTimes x = Scene.planned(1, 0);
        Scene.looks(x, 0, 8, 8, 7);
        Check.due("the first W", x.after(0), 5);
        Check.due("the first MOST", x.after(1), 150);
        Check.due("the first READING", x.after(2), 0);
        Check.due("ODDS", x.after(3), 500);
        Check.due("none below 50", x.after(4), 0);
        // Two BABIES: by LENGTHS 1 less 3, by digits 10 less 0, by the greatest 1 less 3.
        LookTimes two = Scene.planned(1, 0);
        Scene.looks(two, 0, 8, 8, 7);
        Scene.looks(two, 0, 8, 60, 63);
        Check.due("READING 2", two.after(2), 2);
        Check.due("ODDS", two.after(3), 500);
        // By the greatest of each: 100 less 50, and 98 less 100; by LENGTHS 1 less 11.
        LookTimes three = Scene.planned(1, 0);
        Scene.looks(three, 0, 8, 2, 1);
        Scene.looks(three, 0, 8, 500, 511);
        three.reading(0, 600);
        Check.due("READING 0 with MOST 150: 2 of 4", three.after(3), 500);
        Check.due("READING", three.after(2), 0);
        LookTimes cap = Scene.planned(1, 0);
        Scene.looks(cap, 0, 8, 21, 20);
        Scene.looks(cap, 0, 8, 130, 148);
        // 1 less 18: 3 of 4 ways; with CAP 30 one less 0: 2 of 4.
        Check.due("CAP 200: READING 0", cap.after(2), 0);
        Check.due("ODDS", cap.after(3), 750);
        cap.reading(3, 30);
        Check.due("CAP 30: READING 1", cap.after(2), 1);
        Check.due("ODDS", cap.after(3), 500);
        Check.due("as they were: READING 3", cap.read(0, 1), 95);
        for (int what = -3; what <= 8; what++) {
            if (!in(what, 0, 4)) {
                Check.due("after(" + what + ")", cap.after(what), NONE);
            }
        }
        LookTimes least = goesOn(4);
        least.rule(20, 600, 100);
        Check.due("LEAST 100", least.after(4), 32);
        for (int i = 0; i < 5; i++) {
            least.gaze(i, 1, 1);
            least.gaze(i, 1, 99);
        }
        Check.due("LEAST 100: 99 is AWAY", least.after(4), 32);
        least.rule(20, 600, 99);
        // 249 then: shorter than 300, as long by READING 1, a digit less, 83 of 100.
        Check.due("LEAST 99: 99 isn't", least.after(4), 24);
    }

    private static void afterBelow() {
        Check.sentence("3 ODDS then of 1000; 4 how many of all 48 have ODDS of 1000 below 50.");
        below(49, -4, -8, 20, 11, 7, 15, 20, 10, 8, -12);
        below(50, -8, 19, 9, 17, 5, 20, 17, -11);
        int[] none = {5, 150, 0, 1000, 0};
        for (int what = 0; what < 5; what++) {
            Check.due("none COUNTED, what " + what, new LookTimes().after(what), none[what]);
        }
        int[] five = {5, 5, 5, 5, 5};
        // 300 and 305: MOST 600 with READINGS 0 and 3 alone.
        Check.due("8 of 48", Scene.differing(five).after(4), 8);
        LookTimes all = Scene.planned(1, 0);
        for (int i = 0; i < 5; i++) {
            Scene.looks(all, 0, 8, 64, 63);
        }
        Check.due("48 of 48", all.after(4), 48);
    }

    /** ODDS of 1000 by READING 0 and MOST 600 are these; READING 3 has its own, all else is far from it. */
    private static void below(int thousand, int... differences) {
        LookTimes x = Scene.differing(differences);
        Check.due("of 1000", x.odds(3), thousand);
        x.reading(3, 200);
        int shares = x.odds(3);
        Check.due("of 48", x.after(4), (thousand < 50 ? 4 : 0) + (shares < 50 ? 4 : 0));
    }

    private static void afterFractions() {
        // Sixteen BABIES: one way of 65536 is less than two, though both are 0 of 1000.
        LookTimes x = Scene.planned(1, 0);
        for (int i = 0; i < 16; i++) {
            Scene.looks(x, 0, 8, i == 15 ? 301 : 160, i == 15 ? 300 : 140);
        }
        Check.due("MOST", x.after(1), 600);
        Check.due("W", x.after(0), 5);
        Check.due("ODDS", x.after(3), 0);
        // Sixteen BABIES: with W 5 three ways (one is 20 below, one 20 above), with W 10 one.
        LookTimes odd = Scene.planned(1, 0);
        for (int i = 0; i < 15; i++) {
            Scene.looks(odd, 0, 8, i == 14 ? 140 : 150, i == 14 ? 120 : 100);
        }
        Scene.looks(odd, 0, 8, 100, 120);
        odd.gaze(15, 0, 5);
        odd.gaze(15, 0, 100);
        Check.due("W", odd.after(0), 10);
        Check.due("MOST", odd.after(1), 150);
        Check.due("READING", odd.after(2), 0);
        // MOST 150 keeps one BABY of three, MOST 300 two: 1 of 2 and 2 of 4 are like.
        LookTimes y = Scene.planned(1, 0);
        Scene.looks(y, 0, 8, 120, 100);
        Scene.looks(y, 0, 8, 200, 200);
        Check.laws(y, "out if total=300;");
        Check.due("like fractions: the first", y.after(1), 150);
        Check.due("ODDS", y.after(3), 500);
        // All are OUT with MOST 150: 1 of 1 is more than 1 of 2.
        LookTimes z = Scene.planned(1, 0);
        Scene.looks(z, 0, 8, 300, 160);
        Check.laws(z, "out if total=300;");
        Check.due("fewer COUNTED have greater ODDS", z.after(1), 300);
    }

    private static void leavingLimits() {
        Check.sentence("LEAVING (bits; limit 1 .. 1000); NONE if none of at most 3 do, or it can't be.");
        LookTimes x = Scene.differing(5, 5);
        for (int limit : new int[] {Integer.MIN_VALUE, -1, 0, 1001, 1002, Integer.MAX_VALUE}) {
            Check.due("limit " + limit, x.leaving(limit), NONE);
        }
        Check.due("limit 1000", x.leaving(1000), 0);
        Check.due("250 is below 251", x.leaving(251), 0);
        Check.due("250 isn't below 250", x.leaving(250), NONE);
        Check.due("limit 1", x.leaving(1), NONE);
        int[] ten = {5, 5, 5, 5, 5, 5, 5, 5, 5, 5};
        Check.due("0 is below 1", Scene.differing(ten).leaving(1), 0);
        Check.due("1 isn't below 1", Scene.differing(Arrays.copyOf(ten, 9)).leaving(1), NONE);
        Check.due("1 is below 2", Scene.differing(Arrays.copyOf(ten, 9)).leaving(2), 0);
        Check.due("none COUNTED", new LookTimes().leaving(1000), NONE);
        Check.due("all 0", Scene.differing(0, 0, 0).leaving(1000), NONE);
        Check.due("all 0, sixteen of them", Scene.differing(new int[16]).leaving(1000), NONE);
        Check.due("none left is 1000", Scene.differing(-5).leaving(1000), NONE);
        Check.due("none left is 1000", Scene.differing(-5, -5, -5).leaving(1000), NONE);
        Check.due("one left", Scene.differing(-5, -5, 5).leaving(501), 3);
    }

    private static void leavingNumbers() {
        Check.sentence("LEAVING: the fewest of COUNTED BABIES (0 .. 3), of like ones the least bits, without which ODDS of 1000 "
            + "are below a limit.");
        int[] row = new int[12];
        Arrays.fill(row, 1);
        for (int bad = 0; bad <= 5; bad++) {
            int[] some = row.clone();
            for (int i = 0; i < bad; i++) {
                some[i] = -90;
            }
            LookTimes x = Scene.differing(some);
            // Without all of these one way is left, of 2 to the power of how many the others are.
            int alone = 1000 >> 12 - bad;
            Check.due(bad + " must go", x.leaving(alone + 1), bad <= 3 ? (1 << bad) - 1 : NONE);
        }
    }

    private static void leavingBits() {
        // Who must go comes last: bits up to the 16th.
        for (int bad = 1; bad <= 3; bad++) {
            int[] row = new int[16];
            Arrays.fill(row, 1);
            int bits = 0;
            for (int i = 16 - bad; i < 16; i++) {
                row[i] = -200;
                bits |= 1 << i;
            }
            Check.due("the last " + bad, Scene.differing(row).leaving(1), bits);
        }
        // 20 of 64 ways; without one below 0 7 of 32, without two 2 of 16, without all three 1 of 8.
        int[] like = {2, 2, -1, -1, -1, 2};
        Check.due("none must go", Scene.differing(like).leaving(313), 0);
        Check.due("one of like ones", Scene.differing(like).leaving(312), 4);
        Check.due("one of like ones", Scene.differing(like).leaving(219), 4);
        Check.due("two of like ones", Scene.differing(like).leaving(218), 12);
        Check.due("two of like ones", Scene.differing(like).leaving(126), 12);
        Check.due("three are more again", Scene.differing(like).leaving(125), NONE);
        int[] behind = {-9, 2, 2, -1, -1, -1, 2};
        Check.due("with one LEFT ahead", left(Scene.differing(behind)).leaving(219), 8);
        Check.due("with one LEFT ahead", left(Scene.differing(behind)).leaving(126), 24);
        int[] apart = {1, -90, 1, 1, 1, -90, 1, 1, 1, 1, 1, -90};
        Check.due("bits 1, 5, 11", Scene.differing(apart).leaving(2), 2 + 32 + 2048);
        Check.due("bits 1, 5 first of pairs", Scene.differing(1, -9, 1, 1, 1, -9, 1, 1, 1).leaving(8), 2 + 32);
        // {5, 5, -5, -5, 5, 5} without one below 0 is 6 of 32, without another 22 of 32.
        Check.due("3 of two that would do", Scene.differing(5, 5, -5, -5, 5, 5).leaving(188), 4);
        Check.due("6 of 32 isn't below 187", Scene.differing(5, 5, -5, -5, 5, 5).leaving(187), 12);
    }

    private static LookTimes left(LookTimes x) {
        x.leave(0, true);
        return x;
    }

    private static void houses() {
        Check.sentence("Of a HOUSE: 0 how many COUNTED, 1 SUM; VOID for others, or if there is none such.");
        LookTimes x = Scene.differing(1, 2, 4, 8, 16, 32, -64);
        for (int house = -3; house <= 9; house++) {
            boolean there = in(house, 0, 5);
            Check.due("COUNTED of " + house, x.house(house, 0), !there ? VOID : house == 0 ? 2 : 1);
            Check.due("SUM of " + house, x.house(house, 1), !there ? VOID : house == 0 ? -63 : 1 << house);
            Check.due("what 2", x.house(house, 2), VOID);
            Check.due("what -1", x.house(house, -1), VOID);
        }
        x.leave(5, true);
        Check.due("none COUNTED", x.house(5, 0), 0);
        Check.due("SUM of none", x.house(5, 1), 0);
        Check.due("of a new object", new LookTimes().house(5, 0), 0);
    }

    private static void joined() {
        Check.sentence("JOINED: 0 the least, 1 the greatest; NONE for others, or if none is COUNTED.");
        LookTimes x = Scene.differing(1, 2, 4, 8, 16, 32);
        // Without any one of six: one way of 32.
        Check.due("the least", x.joined(0), 31);
        Check.due("the greatest", x.joined(1), 31);
        for (int what : new int[] {-2, -1, 2, 3}) {
            Check.due("what " + what, x.joined(what), NONE);
        }
        x.leave(0, true);
        Check.due("without one of five HOUSES", x.joined(0), 62);
        LookTimes first = Scene.differing(-63, 1, 1, 1, 1, 1);
        Check.due("the least, without HOUSE 0", first.joined(0), 31);
        // With -63 every way that turns it, and the one that turns none: 17 of 32.
        Check.due("the greatest, without another", first.joined(1), 531);
        LookTimes last = Scene.differing(1, 1, 1, 1, 1, -63);
        Check.due("the least, without HOUSE 5", last.joined(0), 31);
        LookTimes one = Scene.differing(9);
        Check.due("one HOUSE alone: none is left", one.joined(0), 1000);
        Check.due("one HOUSE alone: none is left", one.joined(1), 1000);
        one.leave(0, true);
        Check.due("none is COUNTED", one.joined(0), NONE);
        Check.due("none is COUNTED", one.joined(1), NONE);
    }

    private static void span() {
        Check.sentence("from -l to l (0 .. 50), by ones: 0 the least, 1 the greatest; NONE for others, or if l can't be.");
        LookTimes x = Scene.differing(-50, -50);
        LookTimes y = Scene.differing(50, 50);
        for (int l = -3; l <= 53; l++) {
            boolean good = in(l, 0, 50);
            // With a LEAN of 50 all ways have as much; less than that, and both turned ones have more.
            Check.due("the least, l " + l, x.span(l, 0), good ? 1000 : NONE);
            Check.due("the greatest, l " + l, y.span(l, 1), !good ? NONE : l < 50 ? 250 : 1000);
        }
        LookTimes above = Scene.differing(-49, -49);
        Check.due("l 49", above.span(49, 0), 1000);
        Check.due("l 50: by LEAN 50 alone", above.span(50, 0), 250);
        LookTimes one = Scene.differing(13, -13);
        // LEAN 0 has 3 of 4; 1 to 12 have 2 of 4; 13 makes 26 and 0: 2 of 4; 14 makes 1 of 4.
        Check.due("l 0", one.span(0, 0), 750);
        Check.due("l 1", one.span(1, 0), 500);
        Check.due("l 13", one.span(13, 0), 500);
        Check.due("l 14", one.span(14, 0), 250);
        Check.due("l 12, the greatest", one.span(12, 1), 750);
        Check.due("l 13, the greatest", one.span(13, 1), 1000);
        for (int what : new int[] {-2, -1, 2, 3}) {
            Check.due("what " + what, one.span(5, what), NONE);
        }
        one.lean(50);
        Check.due("in place of the LEAN that is", one.span(0, 0), 750);
        Check.due("which stays", one.difference(0), 63);
    }

    private static void spreads() {
        Check.sentence("SPREAD S (0 .. 100; 0 at first) and LONG L (1 .. 5; 1).");
        for (int s = -3; s <= 103; s++) {
            LookTimes x = new LookTimes();
            Check.due("spread(" + s + ", 3)", x.spread(s, 3) ? 1 : 0, in(s, 0, 100) ? 1 : 0);
            Check.due("reason", x.status(2), in(s, 0, 100) ? 0 : 1);
        }
        for (int l = -2; l <= 8; l++) {
            LookTimes x = new LookTimes();
            Check.due("spread(3, " + l + ")", x.spread(3, l) ? 1 : 0, in(l, 1, 5) ? 1 : 0);
            Check.due("reason", x.status(2), in(l, 1, 5) ? 0 : 1);
        }
        LookTimes x = Scene.full();
        x.spread(0, 1);
        x.world(NONE, 77);
        for (int baby = 0; baby < 16; baby++) {
            Check.due("S 0, L 1", x.length(baby, baby % 8), 100);
        }
        x.spread(40, 5);
        Check.no("spread(7, 6)", x.spread(7, 6));
        Check.no("spread(101, 2)", x.spread(101, 2));
        world(x, NONE, 3, 40, 5, 100);
    }

    /** Every LOOK of a WORLD of sixteen BABIES with eight TRIALS, each of which has so much said of it. */
    private static void world(LookTimes x, int law, int seed, int s, int l, int said) {
        Check.due("world(" + law + ", " + seed + ")", x.world(law, seed), 128);
        BigInteger lot = BigInteger.valueOf(seed);
        for (int baby = 0; baby < 16; baby++) {
            for (int trial = 0; trial < 8; trial++) {
                lot = following(lot);
                int look = said + below(lot, 2 * s + 1) - s;
                lot = following(lot);
                look *= below(lot, 16) == 0 ? l : 1;
                if (trial % 3 == baby % 3) {
                    Check.due("world(" + law + ", " + seed + "), S " + s + ", L " + l + ", BABY " + baby + ", TRIAL " + trial,
                        x.length(baby, trial), Math.max(1, Math.min(600, look)));
                }
            }
        }
    }

    private static BigInteger following(BigInteger lot) {
        return lot.multiply(BigInteger.valueOf(1103515245)).add(BigInteger.valueOf(12345)).mod(BigInteger.TWO.pow(31));
    }

    private static int below(BigInteger lot, int n) {
        return lot.divide(BigInteger.valueOf(256)).mod(BigInteger.valueOf(n)).intValue();
    }

    private static void lots() {
        Check.sentence("LOTS: x comes of a seed (0 .. 1000000); each time x becomes the lowest 31 bits of x * 1103515245 + 12345; a lot "
            + "below n is x by 256 (cut), rest by n.");
        for (int seed : new int[] {0, 1, 2, 255, 256, 65536, 999999, 1000000}) {
            for (int s : new int[] {0, 1, 50, 100}) {
                LookTimes x = Scene.full();
                x.spread(s, s == 1 ? 1 : 5);
                world(x, NONE, seed, s, s == 1 ? 1 : 5, 100);
            }
        }
        for (int seed : new int[] {Integer.MIN_VALUE, -1, 1000001, Integer.MAX_VALUE}) {
            LookTimes x = Scene.full();
            Check.due("world(NONE, " + seed + ")", x.world(NONE, seed), NONE);
            Check.due("reason", x.status(2), 1);
            Check.due("worlds(NONE, " + seed + ")", x.worlds(NONE, seed, 1, 1000), NONE);
        }
    }

    private static void longLooks() {
        Check.sentence("times L, if the second lot (below 16) is 0; brought to 1 .. 600.");
        for (int said : new int[] {0, 1, 99, 100, 101, 119, 120, 121, 499, 500, 501, 599, 600}) {
            LookTimes x = Scene.full();
            Check.laws(x, "law a is " + said + ";");
            x.spread(100, 5);
            world(x, 0, 4711, 100, 5, said);
            x.spread(0, 5);
            world(x, 0, 4711, 0, 5, said);
        }
    }

    private static void worldOfNone() {
        Check.sentence("A WORLD of a LAW (or none: it SAYS 100 of all) gives each BABY in turn");
        LookTimes x = new LookTimes();
        Check.due("without BABIES", x.world(NONE, 0), 0);
        Check.due("without LAWS", x.world(0, 0), NONE);
        Check.due("reason", x.status(0), 1);
        x.plan();
        x.baby(0, 0, 8);
        Check.due("of a PLAN without TRIALS", x.world(NONE, 0), 0);
        LookTimes y = Scene.planned(0, 1);
        Scene.looks(y, 0, 8, 7, 8);
        Scene.looks(y, 0, 60, 9, 9);
        Check.laws(y, "law a is age+odd;law b is 5;");
        Check.due("LAW 2", y.world(2, 0), NONE);
        Check.due("LAW -2", y.world(-2, 0), NONE);
        Check.due("nothing changed", y.length(0, 0), 7);
        Check.due("LAW 0", y.world(0, 0), 4);
        Check.due("for its AGE", y.length(0, 0), 8);
        Check.due("for its AGE", y.length(0, 1), 9);
        Check.due("for its AGE", y.length(1, 1), 61);
        Check.due("the last LAW", y.world(1, 0), 4);
        Check.due("what it SAYS", y.length(1, 1), 5);
        Check.due("none", y.world(NONE, 0), 4);
        Check.due("100 of all", y.length(0, 0), 100);
        Check.due("one LOOK", y.gaze(0, 0, 4), 2);
        y.spread(0, 1);
        Check.due("again", y.world(NONE, 0), 4);
        Check.due("in place of all GAZES", y.gaze(0, 0, 4), 2);
    }

    private static void worldBehindCrying() {
        Check.sentence("in each TRIAL that isn't behind its CRYING, by two lots, a GAZE of one LOOK");
        for (int from = -1; from < 3; from++) {
            LookTimes x = Scene.planned(0, 1, 0);
            Scene.looks(x, 0, 8, 7, 8, 9);
            Scene.looks(x, 0, 8, 7, 8, 9);
            x.cried(0, from);
            x.spread(100, 3);
            int first = from == NONE ? 3 : from;
            Check.due("LOOKS", x.world(NONE, 6), first + 3);
            x.cried(0, NONE);
            BigInteger lot = BigInteger.valueOf(6);
            for (int k = 0; k < 6; k++) {
                int baby = k / 3;
                int trial = k % 3;
                if (baby == 0 && trial >= first) {
                    Check.due("no GAZE is left", x.length(0, trial), NONE);
                    continue;
                }
                lot = following(lot);
                int look = 100 + below(lot, 201) - 100;
                lot = following(lot);
                look *= below(lot, 16) == 0 ? 3 : 1;
                Check.due("lots go on, BABY " + baby + ", TRIAL " + trial, x.length(baby, trial), Math.max(1, Math.min(600, look)));
            }
        }
    }

    private static void worldsBounds() {
        Check.sentence("Of n WORLDS (1 .. 10) of a LAW (or none), from a seed on, each one more, how many have ODDS of 1000 of a "
            + "limit (0 .. 1000) or less; NONE if they can't be. (GAZES are as they were behind it.)");
        LookTimes x = Scene.rich();
        for (int n = -2; n <= 13; n++) {
            Check.due("n " + n, x.worlds(0, 0, n, 1000), in(n, 1, 10) ? n : NONE);
            Check.due("n " + n + " of none", x.worlds(NONE, 1000000, n, 1000), in(n, 1, 10) ? n : NONE);
        }
        for (int law = -4; law <= 5; law++) {
            Check.due("LAW " + law, x.worlds(law, 0, 3, 1000), in(law, -1, 2) ? 3 : NONE);
        }
        for (int limit : new int[] {-2, -1, 0, 1, 999, 1000, 1001, 1002}) {
            int found = x.worlds(0, 0, 2, limit);
            Check.yes("limit " + limit, in(limit, 0, 1000) == (found != NONE));
        }
        for (int seed : new int[] {-2, -1, 0, 1, 999999, 1000000, 1000001}) {
            Check.due("seed " + seed, x.worlds(NONE, seed, 1, 1000), in(seed, 0, 1000000) ? 1 : NONE);
        }
        for (int k = 0; k < 3; k++) {
            Check.due("refused", x.status(k), 0);
        }
        LookTimes same = Scene.rich();
        Check.yes("GAZES are as they were", Seen.of(x).equals(Seen.of(same)));
        Check.due("without BABIES ODDS are 1000", new LookTimes().worlds(NONE, 0, 10, 1000), 10);
        Check.due("without BABIES", new LookTimes().worlds(NONE, 0, 10, 999), 0);
    }

    private static void worldsLimits() {
        int[] ten = {1, 1, 1, 1, 1, 1, 1, 1, 1, 1};
        LookTimes x = Scene.differing(ten);
        Check.laws(x, "law a is 100+odd;law b is 100-odd;");
        Check.due("0 of 1000 is a limit of 0", x.worlds(0, 0, 10, 0), 10);
        Check.due("1000 of 1000", x.worlds(1, 0, 10, 999), 0);
        Check.due("1000 of 1000", x.worlds(1, 0, 10, 1000), 10);
        Check.due("as they were", x.odds(1), 10);
        LookTimes nine = Scene.differing(Arrays.copyOf(ten, 9));
        Check.laws(nine, "law a is 100+odd;");
        Check.due("1 of 1000 is over 0", nine.worlds(0, 0, 10, 0), 0);
        Check.due("1 of 1000", nine.worlds(0, 0, 10, 1), 10);
        nine.spread(90, 4);
        int[] odds = new int[10];
        nine.image(0);
        for (int i = 0; i < 10; i++) {
            nine.world(NONE, 500 + i);
            odds[i] = nine.odds(3);
        }
        nine.restore(0);
        for (int limit : odds) {
            int want = 0;
            int less = 0;
            for (int odd : odds) {
                want += odd <= limit ? 1 : 0;
                less += odd <= limit - 1 ? 1 : 0;
            }
            Check.due("limit " + limit, nine.worlds(NONE, 500, 10, limit), want);
            Check.due("limit " + (limit - 1), nine.worlds(NONE, 500, 10, limit - 1), limit > 0 ? less : NONE);
        }
        nine.spread(0, 1);
        nine.leave(0, true);
        nine.lean(3);
        Check.due("who is LEFT isn't COUNTED, the WATCHER LEANS", nine.worlds(0, 0, 1, 2), 0);
        Check.due("1 of 256", nine.worlds(0, 0, 1, 3), 1);
    }

    private static void parts() {
        Check.sentence("of unlike signs (above 0, 0, below 0, none), none of both.");
        LookTimes x = Scene.planned(0, 1);
        Scene.addPlan(x);
        Scene.addPlan(x, 0, 2);
        Scene.addPlan(x, 1, 3, 1);
        Check.laws(x, "law a is 50+odd;law b is 50;law c is 50-odd;law d is 50+9*odd;law e is 7;law f is 50-9*odd;");
        for (int one = -2; one <= 7; one++) {
            for (int other = -2; other <= 7; other++) {
                boolean there = in(one, 0, 5) && in(other, 0, 5);
                Check.due("parts(0, " + one + ", " + other + ")", x.parts(0, one, other, 20),
                    !there ? NONE : one % 3 == other % 3 ? 0 : 1);
            }
        }
        Check.sentence("1 if a PLAN PARTS two LAWS for an AGE, else 0; NONE if there are none such.");
        Check.due("no TRIALS", x.parts(1, 0, 2, 20), 0);
        Check.due("none ODD", x.parts(2, 0, 2, 20), 0);
        Check.due("all ODD", x.parts(3, 0, 2, 20), 0);
        Check.due("no PLAN 4", x.parts(4, 0, 2, 20), NONE);
        Check.due("no PLAN -1", x.parts(-1, 0, 2, 20), NONE);
        for (int age : new int[] {7, 8, 60, 61}) {
            Check.due("AGE " + age, x.parts(0, 0, 2, age), in(age, 8, 60) ? 1 : NONE);
        }
        // 100 less 100 twice: a * n and b * m are 200 each, though the sums are unlike.
        LookTimes y = Scene.planned(1, 0, 0);
        Check.laws(y, "law a is 100;law b is 100+odd;law c is 200-100*odd;");
        Check.due("0 and above", y.parts(0, 0, 1, 20), 1);
        Check.due("0 and below", y.parts(0, 0, 2, 20), 1);
        Check.laws(y, "law a is 100;law b is 200-200*odd+200*odd;");
        Check.due("0 and 0", y.parts(0, 0, 1, 20), 0);
    }

    private static void nextBounds() {
        Check.sentence("how many SCREENS (k NONE), the k-th, or (k -2) how many couples; NONE if there is none such, fewer than 2 "
            + "SCREENS, or they can't be.");
        LookTimes x = new LookTimes();
        for (int screens = 0; screens <= 3; screens++) {
            for (int k = -4; k <= 5; k++) {
                int due = screens < 2 || k < -2 || k > 1 ? NONE : k == -2 ? 0 : k == NONE ? 2 : k;
                Check.due("next(4, 20, " + k + ") of " + screens, x.next(4, 20, k), due);
            }
            x.screen(1, 1, screens, 0);
        }
        Check.laws(x, "law a is 50+odd;law b is 50;");
        for (int m = 0; m <= 6; m++) {
            Check.due("m " + m, x.next(m, 20, NONE), in(m, 2, 4) ? 2 : NONE);
            Check.due("m " + m, x.next(m, 20, -2), in(m, 2, 4) ? 1 : NONE);
        }
        for (int age = 6; age <= 62; age++) {
            Check.due("AGE " + age, x.next(2, age, NONE), in(age, 8, 60) ? 2 : NONE);
        }
        // Only a row of three parts these: of rows of two none does.
        Check.laws(x, "law a is 50+odd*(order=2);law b is 50;");
        row(x, 3, 1, 0, 2, 1);
        row(x, 2, 0, 0, 1);
        Check.laws(x, "law a is 7;");
        Check.due("one LAW has no couple", x.next(4, 20, -2), 0);
        Check.laws(x, "out if 1;");
        Check.due("no LAW has no couple", x.next(4, 20, -2), 0);
        Check.due("the shortest, the first", x.next(4, 20, 0) * 10 + x.next(4, 20, 1), 1);
    }

    private static void row(LookTimes x, int m, int couples, int... row) {
        Check.due("couples, m " + m, x.next(m, 20, -2), couples);
        Check.due("size, m " + m, x.next(m, 20, NONE), row.length);
        for (int k = 0; k <= m; k++) {
            Check.due("SCREEN " + k + ", m " + m, x.next(m, 20, k), k < row.length ? row[k] : NONE);
        }
    }

    private static void nextOrder() {
        Check.sentence("NEXT: of all rows of 2 to m (2 .. 4) unlike SCREENS the one that (as a PLAN) PARTS most couples of LAWS, of "
            + "like ones the shortest, then the first by the first SCREEN's number, then the second's, and so on.");
        LookTimes x = new LookTimes();
        for (int i = 0; i < 4; i++) {
            x.screen(1, 1, i == 2 ? 2 : i, 0);
            x.screen(1, 1, 2, 1);
        }
        // SCREENS 0, 2, 6 are ODD (0, 1, 3 SHOWN), all others aren't (2 SHOWN).
        Check.laws(x, "law a is 50;law b is 50+odd;");
        row(x, 4, 1, 0, 1);
        Check.laws(x, "law a is 50;law b is 50+odd*(order=0)*(much=3);");
        row(x, 4, 1, 6, 1);
        Check.laws(x, "law a is 50;law b is 50+odd*(order=1)*(much=3);");
        row(x, 4, 1, 1, 6);
        Check.laws(x, "law a is 50;law b is 50+odd*(order=2)*(much=1);");
        row(x, 2, 0, 0, 1);
        row(x, 3, 1, 0, 1, 2);
        row(x, 4, 1, 0, 1, 2);
        Check.laws(x, "law a is 50;law b is 50+odd*(order=3)*(much=0);");
        row(x, 3, 0, 0, 1);
        row(x, 4, 1, 1, 2, 3, 0);
        // A longer row parts one couple more.
        Check.laws(x, "law a is 50;law b is 50+odd;law c is 50+odd-2*odd*(order=3);");
        row(x, 3, 2, 0, 1);
        row(x, 4, 3, 1, 3, 4, 0);
        // Three heaps of two: 12 couples are the most that there can be.
        Check.laws(x, "law a is 50;law b is 50+odd;law c is 50-odd;law d is 60;law e is 60+odd;law f is 60-odd;");
        row(x, 4, 12, 0, 1);
        Check.laws(x, "law a is 50;law b is 50+odd;law c is 50-odd;law d is 60;law e is 60+odd;");
        row(x, 4, 8, 0, 1);
        Check.laws(x, "law a is 50;law b is 50+odd;law c is 50-odd;law d is 60;");
        row(x, 4, 5, 0, 1);
        Check.laws(x, "law a is 50;law b is 50+odd;law c is 50-odd;");
        row(x, 4, 3, 0, 1);
        Check.laws(x, "law a is 1;law b is 2;law c is 3;law d is 4;law e is 5;law f is 6;");
        row(x, 4, 0, 0, 1);
        Check.laws(x, "law a is 1;law b is 2;law c is 3;law d is 4;law e is 5;law f is 6+odd*(order=3);");
        row(x, 4, 5, 0, 1, 2, 6);
    }

    private static void nextOfTwelve() {
        LookTimes x = new LookTimes();
        for (int i = 0; i < 12; i++) {
            x.screen(i % 5, 0, i < 8 ? i % 5 : 9 - (i - 8) % 4, i % 5);
        }
        // SCREENS 8 to 11 alone are ODD: they SHOW 9, 8, 7, 6.
        Check.laws(x, "law a is 50;law b is 50+odd;");
        row(x, 4, 1, 0, 8);
        Check.laws(x, "law a is 50;law b is 50+(much=6)*(order=0);");
        row(x, 4, 1, 11, 0);
        Check.laws(x, "law a is 50;law b is 50+(much=6)*(order=3);");
        row(x, 4, 1, 0, 1, 2, 11);
        // With the last SCREEN first all three are unlike, with any other two of them are like.
        Check.laws(x, "law a is 50;law b is 50+4*(much=6)*(order=0)-3*odd;law c is 50-odd;");
        row(x, 4, 3, 11, 0);
        Check.laws(x, "law a is 50;law b is 50+4*(much=7)*(order=1)-3*odd;law c is 50-odd;");
        row(x, 4, 3, 0, 10);
    }

    private static void fresh() {
        Check.sentence("FRESH (0 .. 7); NONE if there is no such TRIAL, or it can't be.");
        LookTimes x = Scene.staged();
        Scene.addPlan(x, 0);
        Scene.addPlan(x, 0, 1, 0);
        Scene.addPlan(x, 3);
        Scene.addPlan(x, 2, 2, 2, 2, 2, 2, 2, 2);
        for (int times = -2; times <= 9; times++) {
            Check.due("without BABIES", x.fresh(times), NONE);
        }
        Scene.looksOf(x, 3, 0, 8, 600, 500, 400, 300, 200, 100, 50, 1);
        int[] due = {600, 500, 400, 300, 200, 100, 50, 1};
        for (int times = -2; times <= 9; times++) {
            Check.due("fresh(" + times + ")", x.fresh(times), in(times, 0, 7) ? due[times] : NONE);
        }
        Scene.looksOf(x, 1, 0, 9, 9, 0, 0);
        Check.due("a missing one isn't there", x.fresh(0), 609 / 2);
        x.gaze(1, 2, 5);
        Check.due("the mean, cut", x.fresh(1), 505 / 2);
        Check.due("seven ahead", x.fresh(7), 1);
        x.cried(0, 7);
        Check.due("all missing", x.fresh(7), NONE);
        Check.laws(x, "out if age=8;");
        Check.due("one is OUT", x.fresh(0), 9);
        Check.due("one is OUT", x.fresh(1), 5);
        Check.due("one is OUT", x.fresh(2), NONE);
        Check.laws(x, "out if 1;");
        Check.due("all are OUT", x.fresh(0), NONE);
        Check.laws(x, "out if 0;");
        x.lean(-50);
        Scene.looksOf(x, 2, 0, 10, 20);
        Check.due("a LENGTH of 0 is one", x.fresh(0), 609 / 3);
    }

    private static void settled() {
        Check.sentence("SETTLED is a BABY at the first TRIAL from 2 on, so that it and that ahead have LENGTHS that are together "
            + "less than half of those of TRIALS 0 and 1 together (none missing).");
        int[][] due = {
            {7, 100, 100, 100, 100, 100, 100, 50, 49}, {NONE, 100, 100, 100, 100, 100, 100, 50, 50},
            {2, 100, 1, 49, 1, 1, 1, 1, 1}, {5, 100, 1, 50, 0, 1, 1, 1, 1}, {2, 597, 1, 297}, {NONE, 597, 1, 298},
            {2, 598, 1, 298}, {NONE, 598, 1, 299}, {2, 600, 1, 299}, {NONE, 600, 1, 300}, {4, 100, 100, 60, 50, 49},
            {3, 100, 100, 60, 39, 10}, {NONE, 0, 100, 1, 1, 1}, {NONE, 100, 0, 1, 1, 1}, {4, 100, 100, 0, 1, 1},
            {NONE, 100, 100, 100, 0, 1}, {NONE, 100}, {NONE, 100, 1}, {NONE, 1, 1, 1}, {3, 100, 99, 1, 1}};
        for (int[] d : due) {
            LookTimes x = Scene.planned(0, 0, 0, 0, 0, 0, 0, 0);
            Scene.looks(x, 0, 8, Arrays.copyOfRange(d, 1, d.length));
            Check.due("settled by " + Arrays.toString(d), x.settled(0), d[0]);
        }
        Check.sentence("At which TRIAL a BABY is SETTLED; NONE if it isn't, or there is none such.");
        LookTimes x = Scene.planned(0, 0);
        Scene.looks(x, 0, 8, 600, 1);
        Check.due("two TRIALS", x.settled(0), NONE);
        Check.due("no BABY 1", x.settled(1), NONE);
        Check.due("no BABY -1", x.settled(-1), NONE);
        LookTimes none = Scene.planned();
        none.baby(0, 0, 8);
        Check.due("no TRIALS", none.settled(0), NONE);
        LookTimes nought = Scene.planned(1, 1, 1, 1);
        Scene.looks(nought, 0, 8, 50, 50, 50, 50);
        nought.lean(-50);
        Check.due("0 isn't less than half of 0", nought.settled(0), NONE);
        LookTimes out = Scene.planned(0, 0, 0);
        Scene.looks(out, 0, 8, 100, 1, 1);
        out.leave(0, true);
        Check.laws(out, "out if 1;");
        Check.due("who is LEFT and OUT too", out.settled(0), 2);
    }

    private static void apart() {
        Check.sentence("OFF of a LAW for a BABY alone, or (baby NONE) for all; NONE if there are none such.");
        LookTimes x = Scene.planned(1, 0, 1, 0, 1, 0, 1, 0);
        Scene.looks(x, 0, 8, 600, 600, 600, 600, 600, 600, 600, 600);
        Scene.looks(x, 0, 60, 1, 1, 1, 1, 1, 1, 1, 1);
        Check.due("no LAW", x.apart(0, 0), NONE);
        Check.due("no LAW", x.apart(0, NONE), NONE);
        Check.laws(x, "law a is 0;law b is 600;law c is 8;");
        Check.due("the greatest", x.apart(0, 0), 4800);
        Check.due("0", x.apart(1, 0), 0);
        Check.due("below", x.apart(1, 1), 8 * 599);
        Check.due("of all", x.apart(2, NONE), 8 * 592 + 8 * 7);
        for (int law = -3; law <= 5; law++) {
            for (int baby = -3; baby <= 4; baby++) {
                boolean there = in(law, 0, 2) && in(baby, -1, 1);
                Check.yes("apart(" + law + ", " + baby + ")", there == (x.apart(law, baby) != NONE));
            }
        }
        x.lean(-50);
        x.reading(1, 10);
        Check.due("without LEAN, by LENGTH", x.apart(0, 0), 4800);
        x.rule(20, 10, 0);
        Check.due("by the RULE", x.apart(0, 0), 80);
        x.cried(0, 1);
        Check.due("of those not missing", x.apart(0, 0), 10);
        Check.due("all: who is COUNTED", x.apart(0, NONE), 8);
        x.cried(0, 0);
        Check.due("all are missing", x.apart(0, 0), 0);
        x.leave(1, true);
        Check.due("none is COUNTED", x.apart(0, NONE), 0);
    }

    private static void nearest() {
        Check.sentence("The NEAREST has the least, of like ones the least number.");
        LookTimes x = Scene.planned(1, 0);
        Scene.looks(x, 0, 8, 100, 100);
        Check.due("no LAW", x.nearest(0), NONE);
        Check.due("no LAW", x.nearest(NONE), NONE);
        Check.laws(x, "law a is 90;law b is 110;law c is 91;law d is 109;law e is 92;law f is 108;");
        Check.due("like ones: 4 and 5", x.nearest(0), 4);
        Check.laws(x, "law a is 90;law b is 110;law c is 91;law d is 109;law e is 92;law f is 107;");
        Check.due("the last", x.nearest(0), 5);
        Check.laws(x, "law a is 101;law b is 99;law c is 101;law d is 99;law e is 0;law f is 600;");
        Check.due("the first of like ones", x.nearest(NONE), 0);
        Check.laws(x, "law a is 0;law b is 600;");
        Check.due("far", x.nearest(NONE), 0);
        Check.sentence("NONE if there is none, none is COUNTED (for all), or none such.");
        for (int baby = -3; baby <= 3; baby++) {
            Check.due("nearest(" + baby + ")", x.nearest(baby), in(baby, -1, 0) ? 0 : NONE);
        }
        x.cried(0, 1);
        Check.due("none is COUNTED", x.nearest(NONE), NONE);
        Check.due("of the BABY alone", x.nearest(0), 0);
        x.cried(0, 0);
        Check.due("all are missing: all are like", x.nearest(0), 0);
        x.cried(0, NONE);
        x.leave(0, true);
        Check.due("LEFT", x.nearest(NONE), NONE);
        Check.due("LEFT, alone", x.nearest(0), 0);
    }

    private static void books() {
        Check.sentence("A BOOK is written: true; false (REFUSED) if babies (0 .. 16) can't be.");
        for (int babies = -2; babies <= 19; babies++) {
            LookTimes x = new LookTimes();
            boolean good = in(babies, 0, 16);
            Check.due("book(" + babies + ")", x.book(babies) ? 1 : 0, good ? 1 : 0);
            Check.due("reason", x.status(2), good ? 0 : 1);
            Check.due("kept", x.kept(), !good ? NONE : babies == 0 ? 0 : 8);
            Check.due("kept by 16", full(babies), !good ? NONE : babies == 16 ? 0 : 16);
        }
        Check.sentence("KEPT (0: it is); NONE without a BOOK.");
        LookTimes x = Scene.planned(0, 1);
        Check.due("without", x.kept(), NONE);
        x.lean(1);
        Check.due("without, whatever is", x.kept(), NONE);
        x.lean(0);
        x.reading(1, 100);
        x.book(0);
        Check.due("it is", x.kept(), 0);
        x.baby(0, 0, 8);
        x.leave(0, true);
        x.rule(19, 600, 0);
        x.reading(2, 100);
        x.lean(-50);
        Check.laws(x, "law a is 1;");
        Check.due("all bits but 8", x.kept(), 1 + 2 + 4 + 16 + 32 + 64);
        x.book(2);
        Check.due("RULE, READING and LAWS are kept from now on", x.kept(), 8 + 32 + 64);
        x.rule(20, 600, 0);
        x.reading(1, 100);
        Check.laws(x, "out if 0;");
        Check.due("all bits but 16", x.kept(), 1 + 2 + 4 + 8 + 32 + 64);
        Check.due("other SCREENS, PLANS, LIKES, SPREADS, GAZES", others(), 0);
    }

    private static int full(int babies) {
        LookTimes x = Scene.planned(0);
        for (int i = 0; i < 16; i++) {
            x.baby(0, 0, 8);
        }
        x.book(babies);
        return x.kept();
    }

    private static int others() {
        LookTimes x = Scene.planned(0, 1);
        x.baby(0, 0, 8);
        x.reading(3, 100);
        x.book(1);
        x.reading(3, 101);
        x.screen(0, 0, 0, 0);
        x.plan();
        x.liked(0, 9);
        x.spread(9, 2);
        x.gaze(0, 0, 9);
        x.cried(0, 1);
        x.world(NONE, 4);
        x.image(0);
        x.restore(0);
        x.leave(0, true);
        x.leave(0, false);
        x.laws();
        return x.kept();
    }

    private static void images() {
        Check.sentence("IMAGES 0 .. 2 keep BABIES with GAZES, CRYING and who is LEFT, the RULE, LEAN, READING and CAP.");
        LookTimes x = Scene.planned(1, 0);
        for (int k = -2; k <= 5; k++) {
            Check.no("restore(" + k + ")", x.restore(k));
        }
        Check.due("reason", x.status(0), 8);
        for (int k = 0; k < 3; k++) {
            Check.yes("image(" + k + ")", x.image(k));
            x.baby(0, 0, 8);
            x.gaze(k, 0, 10 + k);
            x.lean(k + 1);
        }
        for (int k = -2; k <= 5; k++) {
            if (!in(k, 0, 2)) {
                Check.no("image(" + k + ")", x.image(k));
            }
        }
        Check.due("reason", x.status(0), 13);
        for (int k : new int[] {2, 0, 1, 1, 2}) {
            Check.yes("restore(" + k + ")", x.restore(k));
            Check.due("BABIES", x.count(2), k);
            Check.due("the last of them, with LEAN", x.length(k - 1, 0), k == 0 ? NONE : 10 + k - 1 + k);
            Check.due("none behind them", x.length(k, 0), NONE);
        }
        x.restore(0);
        Check.due("numbers come anew", x.baby(0, 3, 60), 0);
        Check.due("without a GAZE", x.length(0, 0), NONE);
        Check.due("which begins anew", x.gaze(0, 0, 5), 1);
        x.image(0);
        x.restore(2);
        x.restore(0);
        Check.due("the newer IMAGE", x.length(0, 0), 5);
        LookTimes y = Scene.planned(1, 0, 1, 0, 1, 0, 1, 0);
        y.image(0);
        y.baby(0, 5, 60);
        y.world(NONE, 1);
        y.cried(0, 3);
        y.leave(0, true);
        y.restore(0);
        Check.due("a BABY in place of one that is gone", y.baby(0, 0, 8), 0);
        Check.due("isn't LEFT", y.count(6), 0);
        for (int trial = 0; trial < 8; trial++) {
            Check.due("has no old GAZE", y.gaze(0, trial, 9), 1);
            Check.due("hasn't CRIED", y.length(0, trial), 9);
        }
    }

    private static void imagesFull() {
        LookTimes x = Scene.full();
        for (int k = 0; k < 2; k++) {
            x.gaze(15, 0, 3);
            x.gaze(0, 7, 3);
        }
        x.cried(13, 2);
        x.rule(7, 300, 9);
        x.reading(1, 77);
        x.lean(-9);
        int[] ahead = lengths(x);
        x.image(2);
        x.world(NONE, 1);
        x.cried(13, NONE);
        x.cried(0, 0);
        x.leave(15, true);
        x.leave(14, false);
        x.rule(8, 301, 10);
        x.reading(2, 78);
        x.lean(9);
        Check.yes("restore(2)", x.restore(2));
        Check.yes("all LENGTHS", Arrays.equals(lengths(x), ahead));
        Check.due("a GAZE of eight is full", x.gaze(15, 7, 1), NONE);
        Check.due("a GAZE of three", x.gaze(15, 0, 1), 4);
        Check.due("a GAZE of three", x.gaze(0, 7, 1), 4);
        Check.due("LEFT", x.count(6), 1);
        Check.yes("who is LEFT", x.leave(14, false));
        x.book(16);
        x.rule(7, 300, 9);
        x.reading(1, 77);
        Check.due("RULE, READING, CAP", x.kept(), 64);
    }

    private static int[] lengths(LookTimes x) {
        int[] all = new int[128];
        for (int i = 0; i < 128; i++) {
            all[i] = x.length(i / 8, i % 8);
        }
        return all;
    }

    private static void statuses() {
        Check.sentence("How many were REFUSED for a reason (0 .. 2); NONE for others.");
        LookTimes x = new LookTimes();
        for (int reason = -3; reason <= 5; reason++) {
            Check.due("status(" + reason + ")", x.status(reason), in(reason, 0, 2) ? 0 : NONE);
        }
        for (int i = 0; i < 7; i++) {
            x.plan();
            x.liked(9, 9);
            x.lean(51);
            x.lean(-51);
        }
        Check.due("none such", x.status(0), 7);
        Check.due("no room", x.status(1), 3);
        Check.due("otherwise", x.status(2), 14);
        x.image(0);
        x.restore(0);
        Check.due("an IMAGE doesn't keep it", x.status(2), 14);
        Check.sentence("by 0 there is none such (a number of a SCREEN, PLAN, BABY, TRIAL, LAW, KIND, IMAGE that isn't), else 1 there "
            + "is no room, else 2 it can't be otherwise.");
        LookTimes y = Scene.full();
        y.screen(99, 99, 99, 9);
        y.trial(9, 99);
        y.baby(9, 99, 99);
        y.gaze(99, 99, 9999);
        y.world(9, -1);
        Check.due("none such ahead of all", y.status(0), 5);
        y.screen(99, 99, 99, 0);
        y.trial(0, 0);
        y.baby(0, 99, 99);
        y.gaze(15, 7, 9999);
        Check.due("no room ahead of what else", y.status(1), 4);
        Check.due("nothing else", y.status(2), 0);
    }
}
