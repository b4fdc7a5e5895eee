/** Sentence by sentence, the bounds of parts 1 and 2 of the document: SCREENS to GAZES, the RULE, LEAN, READINGS. */
public final class BoundsOfTermsTest {
    private static final int NONE = -1;
    private static final int VOID = Integer.MIN_VALUE;

    public static void main(String[] args) {
        kinds();
        screens();
        screensFull();
        odd();
        plans();
        trials();
        babies();
        babiesFull();
        gazes();
        gazesFull();
        crying();
        ruleBounds();
        ruleAtFirst();
        endOfALook();
        shortLooks();
        awayOnes();
        most();
        missing();
        leans();
        readings();
        capAtFirst();
        digits();
        shares();
        onAndRow();
        lengthsThatAreNot();
        leaves();
        newObject();
        counts();
        calls();
        Check.close("BoundsOfTermsTest");
    }

    private static boolean in(int n, int from, int to) {
        return n >= from && n <= to;
    }

    /** Answer and reasons of a call that is taken or REFUSED for a reason. */
    private static void taken(String call, LookTimes x, int got, int want, int reason) {
        Check.due(call, got, reason == NONE ? want : NONE);
        for (int k = 0; k < 3; k++) {
            Check.due(call + ", status(" + k + ")", x.status(k), k == reason ? 1 : 0);
        }
    }

    private static void kinds() {
        Check.sentence("KINDS of dolls 0 .. 4 are LIKED (0 .. 99; 0 at first).");
        LookTimes x = new LookTimes();
        x.plan();
        for (int kind = 0; kind < 5; kind++) {
            x.screen(0, 0, 0, kind);
            x.trial(0, kind);
        }
        Check.laws(x, "law a is liked;");
        for (int kind = 0; kind < 5; kind++) {
            Check.due("KIND " + kind + " at first", x.says(0, 0, kind, 8), 0);
        }
        for (int kind = 0; kind < 5; kind++) {
            Check.yes("liked(" + kind + ", 99)", x.liked(kind, 99));
            Check.due("99", x.says(0, 0, kind, 8), 99);
            Check.no("liked(" + kind + ", 100)", x.liked(kind, 100));
            Check.no("liked(" + kind + ", -1)", x.liked(kind, -1));
            Check.due("still 99", x.says(0, 0, kind, 8), 99);
            Check.yes("liked(" + kind + ", 0)", x.liked(kind, 0));
            Check.yes("liked(" + kind + ", " + kind + ")", x.liked(kind, kind));
        }
        for (int kind = 0; kind < 5; kind++) {
            Check.due("each its own", x.says(0, 0, kind, 8), kind);
        }
        for (int much = -3; much <= 103; much++) {
            LookTimes y = new LookTimes();
            boolean good = in(much, 0, 99);
            taken("liked(2, " + much + ")", y, y.liked(2, much) ? 1 : NONE, 1, good ? NONE : 2);
        }
    }

    private static void screens() {
        Check.sentence("dolls at FIRST (0 .. 9), brought by a HAND (-9 .. 9; below 0: taken), SHOWN at last (0 .. 9), and "
            + "their KIND; FIRST and HAND together must be 0 .. 9.");
        for (int first = -1; first <= 10; first++) {
            for (int hand = -10; hand <= 10; hand++) {
                for (int shown = -1; shown <= 10; shown += 1 + (in(shown, 1, 7) ? 6 : 0)) {
                    for (int kind = -1; kind <= 5; kind++) {
                        LookTimes x = new LookTimes();
                        boolean good = in(first, 0, 9) && in(hand, -9, 9) && in(shown, 0, 9) && in(first + hand, 0, 9);
                        taken("screen(" + first + ", " + hand + ", " + shown + ", " + kind + ")", x,
                            x.screen(first, hand, shown, kind), 0, !in(kind, 0, 4) ? 0 : good ? NONE : 2);
                    }
                }
            }
        }
    }

    private static void screensFull() {
        Check.sentence("SCREENS (at most 12, numbers as they come)");
        LookTimes x = new LookTimes();
        for (int i = 0; i < 12; i++) {
            Check.due("on(" + i + ") ahead of it", x.on(i, 0), VOID);
            Check.due("screen " + i, x.screen(i % 10, i % 10 == 9 ? 0 : -(i % 4) * (i % 10 > 3 ? 1 : 0), i / 2, i % 5), i);
        }
        Check.due("a 13th", x.screen(0, 0, 0, 0), NONE);
        Check.due("a 13th again", x.screen(9, 0, 9, 4), NONE);
        Check.due("SCREENS", x.count(0), 12);
        Check.due("refused for room", x.status(1), 2);
        for (int i = 0; i < 12; i++) {
            Check.due("FIRST of " + i, x.on(i, 0), i % 10);
            Check.due("SHOWN of " + i, x.on(i, 2), i / 2);
            Check.due("KIND of " + i, x.on(i, 3), i % 5);
        }
        Check.due("on(12, 0)", x.on(12, 0), VOID);
    }

    private static void odd() {
        Check.sentence("ODD is one whose SHOWN is another number than these together.");
        for (int first = 0; first <= 9; first++) {
            for (int hand = -first; hand <= 9 - first; hand++) {
                LookTimes x = new LookTimes();
                for (int shown = 0; shown <= 9; shown++) {
                    x.screen(first, hand, shown, 0);
                    Check.due("on with " + first + ", " + hand + ", " + shown, x.on(shown, 4), shown == first + hand ? 0 : 1);
                }
                Check.due("HAND", x.on(9, 1), hand);
            }
        }
    }

    private static void plans() {
        Check.sentence("PLANS (at most 4, numbers as they come) are rows of SCREENS (at most 8, none at first)");
        LookTimes x = Scene.staged();
        for (int plan = 0; plan < 4; plan++) {
            Check.due("row ahead of it", x.row(plan, NONE), NONE);
            Check.due("plan", x.plan(), plan);
            Check.due("none at first", x.row(plan, NONE), 0);
            Check.due("no TRIAL 0", x.row(plan, 0), NONE);
        }
        Check.due("a 5th", x.plan(), NONE);
        Check.due("PLANS", x.count(1), 4);
        for (int k = 0; k < 8; k++) {
            for (int plan = 0; plan < 4; plan++) {
                Check.due("trial", x.trial(plan, (k * (plan + 1) + plan) % 4), k + 1);
            }
        }
        for (int plan = 0; plan < 4; plan++) {
            Check.due("a 9th", x.trial(plan, 0), NONE);
            Check.due("TRIALS", x.row(plan, NONE), 8);
            for (int k = 0; k < 8; k++) {
                Check.due("row(" + plan + ", " + k + ")", x.row(plan, k), (k * (plan + 1) + plan) % 4);
            }
            Check.due("row(" + plan + ", 8)", x.row(plan, 8), NONE);
        }
        Check.due("row(4, NONE)", x.row(4, NONE), NONE);
        Check.due("refused for room", x.status(1), 5);
    }

    private static void trials() {
        Check.sentence("NONE (REFUSED), also if a BABY has that PLAN already (it can't be otherwise).");
        LookTimes x = Scene.planned(0, 1);
        x.plan();
        Check.due("no BABY yet", x.trial(0, 2), 3);
        x.baby(0, 0, 8);
        Check.due("a BABY has it", x.trial(0, 3), NONE);
        Check.due("reason", x.status(2), 1);
        Check.due("TRIALS", x.row(0, NONE), 3);
        Check.due("the other PLAN", x.trial(1, 3), 1);
        x.baby(1, 0, 8);
        Check.due("a BABY has that too", x.trial(1, 3), NONE);
        Check.due("reason", x.status(2), 2);
    }

    private static void babies() {
        Check.sentence("have a PLAN, a HOUSE (0 .. 5) and an AGE (8 .. 60).");
        for (int house = -2; house <= 7; house++) {
            for (int age = 6; age <= 62; age++) {
                LookTimes x = Scene.planned(0);
                boolean good = in(house, 0, 5) && in(age, 8, 60);
                taken("baby(0, " + house + ", " + age + ")", x, x.baby(0, house, age), 0, good ? NONE : 2);
                Check.due("BABIES", x.count(2), good ? 1 : 0);
            }
        }
        for (int plan = -2; plan <= 5; plan++) {
            LookTimes x = new LookTimes();
            x.plan();
            x.plan();
            taken("baby(" + plan + ", 5, 60)", x, x.baby(plan, 5, 60), 0, in(plan, 0, 1) ? NONE : 0);
        }
    }

    private static void babiesFull() {
        Check.sentence("BABIES (at most 16, numbers as they come)");
        LookTimes x = Scene.planned(0, 1);
        Scene.addPlan(x, 1, 0, 2);
        for (int i = 0; i < 16; i++) {
            Check.due("ahead of it", x.out(i, 0), NONE);
            Check.due("baby", x.baby(i % 2, i % 6, 45 + i), i);
        }
        Check.due("a 17th", x.baby(0, 0, 20), NONE);
        Check.due("reason", x.status(1), 1);
        Check.due("BABIES", x.count(2), 16);
        Check.due("out(16, 0)", x.out(16, 0), NONE);
        for (int i = 0; i < 16; i++) {
            Check.due("its PLAN", x.gaze(i, 2, 9), i % 2 == 0 ? NONE : 1);
        }
        for (int i = 0; i < 16; i += 5) {
            Check.laws(x, "out if age*10+house=" + ((45 + i) * 10 + i % 6) + ";");
            for (int k = 0; k < 16; k++) {
                Check.due("its AGE and HOUSE", x.out(k, 0), k == i ? 1 : 0);
            }
        }
    }

    private static void gazes() {
        Check.sentence("A GAZE of a BABY in a TRIAL of its PLAN is a row of at most 8 lengths (1 .. 600): a LOOK, AWAY, a "
            + "LOOK, and so on.");
        for (int length = -2; length <= 603; length++) {
            LookTimes x = Scene.planned(0);
            x.baby(0, 0, 8);
            boolean good = in(length, 1, 600);
            taken("gaze(0, 0, " + length + ")", x, x.gaze(0, 0, length), 1, good ? NONE : 2);
            Check.due("length", x.length(0, 0), good ? length : NONE);
        }
        LookTimes x = Scene.planned(0);
        x.baby(0, 0, 8);
        int[] rows = {1, 1, 3, 3, 7, 7, 15, 15};
        for (int k = 0; k < 8; k++) {
            Check.due("gaze", x.gaze(0, 0, k % 2 == 1 ? 19 : 1 << k / 2), k + 1);
            Check.due("LOOKS are the 1st, 3rd, 5th, 7th", x.length(0, 0), rows[k]);
        }
    }

    private static void gazesFull() {
        LookTimes x = Scene.staged();
        Scene.addPlan(x, 0, 1, 2, 3, 0, 1, 2, 3);
        for (int i = 0; i < 16; i++) {
            x.baby(0, 0, 8);
        }
        int[][] corners = {{0, 0}, {0, 7}, {7, 3}, {15, 0}, {15, 7}};
        for (int[] at : corners) {
            for (int k = 1; k <= 8; k++) {
                Check.due("gaze", x.gaze(at[0], at[1], k % 2 == 0 ? 5 : at[0] + at[1] + 1), k);
            }
            Check.due("a 9th", x.gaze(at[0], at[1], 5), NONE);
        }
        Check.due("refused for room", x.status(1), corners.length);
        for (int[] at : corners) {
            Check.due("each its own", x.length(at[0], at[1]), 4 * (at[0] + at[1] + 1));
        }
        int looked = 0;
        for (int baby = 0; baby < 16; baby++) {
            for (int trial = 0; trial < 8; trial++) {
                looked += x.length(baby, trial) == NONE ? 0 : 1;
            }
        }
        Check.due("no other GAZE has come", looked, corners.length);
    }

    private static void crying() {
        Check.sentence("A BABY CRIED from a TRIAL on: that and what is behind it is missing.");
        LookTimes x = Scene.staged();
        Scene.addPlan(x, 0, 1, 2, 3, 0, 1, 2, 3);
        Scene.looks(x, 0, 8, 1, 2, 3, 4, 5, 6, 7, 8);
        Scene.looks(x, 0, 8, 1, 2, 3, 4, 5, 6, 7, 8);
        for (int from = -1; from < 8; from++) {
            Check.yes("cried(0, " + from + ")", x.cried(0, from));
            for (int trial = 0; trial < 8; trial++) {
                Check.due("TRIAL " + trial + ", CRIED from " + from, x.length(0, trial),
                    from != NONE && trial >= from ? NONE : trial + 1);
            }
        }
        Check.no("cried(0, 8)", x.cried(0, 8));
        Check.no("cried(0, -2)", x.cried(0, -2));
        Check.due("reason", x.status(0), 2);
        Check.due("still from TRIAL 7", x.length(0, 7), NONE);
        Check.due("the other BABY didn't", x.length(1, 7), 8);
    }

    private static void ruleBounds() {
        Check.sentence("The RULE: W (1 .. 100; 20 at first), MOST (10 .. 600; 600) and LEAST (0 .. 100; 0).");
        int[][] bounds = {{1, 100}, {10, 600}, {0, 100}};
        for (int which = 0; which < 3; which++) {
            for (int n = -2; n <= 603; n++) {
                int[] rule = {50, 50, 50};
                rule[which] = n;
                LookTimes x = new LookTimes();
                boolean good = in(n, bounds[which][0], bounds[which][1]);
                taken("rule(" + rule[0] + ", " + rule[1] + ", " + rule[2] + ")", x,
                    x.rule(rule[0], rule[1], rule[2]) ? 1 : NONE, 1, good ? NONE : 2);
            }
        }
        Check.yes("the least of all", new LookTimes().rule(1, 10, 0));
        Check.yes("the greatest of all", new LookTimes().rule(100, 600, 100));
        LookTimes x = Scene.gazed(60, 30, 60);
        x.rule(40, 100, 10);
        Check.no("one wrong of three", x.rule(10, 50, 101));
        Check.due("none of the three changes", x.length(0, 0), 100);
    }

    private static void ruleAtFirst() {
        Check.due("AWAY of 19", Scene.gazed(7, 19, 8).length(0, 0), 15);
        Check.due("AWAY of 20", Scene.gazed(7, 20, 8).length(0, 0), 7);
        Check.due("MOST is 600: 599 and 1", Scene.gazed(599, 1, 1).length(0, 0), 600);
        Check.due("MOST is 600: 600 and 1", Scene.gazed(600, 1, 1).length(0, 0), 600);
        Check.due("MOST is 600: 597 and 2", Scene.gazed(597, 1, 2).length(0, 0), 599);
        Check.due("LEAST is 0: a LOOK of 1", Scene.gazed(1).length(0, 0), 1);
    }

    private static void byRule(int w, int most, int least, int want, int... lengths) {
        LookTimes x = Scene.gazed(lengths);
        x.rule(w, most, least);
        StringBuilder row = new StringBuilder();
        for (int length : lengths) {
            row.append(' ').append(length);
        }
        Check.due("length by " + w + ", " + most + ", " + least + " of" + row, x.length(0, 0), want);
    }

    private static void endOfALook() {
        Check.sentence("The LENGTH of a TRIAL: its LOOKS together, up to the first AWAY (behind some LOOK) of W or more, MOST "
            + "at most.");
        for (int w : new int[] {1, 2, 20, 99, 100}) {
            if (w > 1) {
                byRule(w, 600, 0, 30, 10, w - 1, 20);
            }
            byRule(w, 600, 0, 10, 10, w, 20);
            byRule(w, 600, 0, 10, 10, w + 1, 20);
        }
        byRule(1, 600, 0, 1, 1, 1, 1, 1, 1, 1, 1, 1);
        byRule(2, 600, 0, 4, 1, 1, 1, 1, 1, 1, 1, 1);
        byRule(20, 600, 0, 3, 1, 19, 1, 19, 1, 20, 1, 1);
        byRule(20, 600, 0, 1, 1, 600, 600);
        byRule(100, 600, 0, 600, 600, 99, 600);
    }

    private static void shortLooks() {
        Check.sentence("A LOOK shorter than LEAST is AWAY; lengths of AWAY that follow one another are one.");
        byRule(20, 600, 100, 100, 100);
        byRule(20, 600, 100, NONE, 99);
        byRule(20, 600, 1, 1, 1);
        byRule(20, 600, 2, NONE, 1);
        // 7 + 5 + 8 = 20 is AWAY behind the LOOK of 50.
        byRule(20, 600, 6, 50, 50, 7, 5, 8, 60);
        byRule(21, 600, 6, 110, 50, 7, 5, 8, 60);
        byRule(20, 600, 5, 115, 50, 7, 5, 8, 60);
        // 3 + 4 + 3 + 4 + 6 = 20.
        byRule(20, 600, 5, 50, 50, 3, 4, 3, 4, 6, 60);
        byRule(21, 600, 5, 110, 50, 3, 4, 3, 4, 6, 60);
        // A LOOK between two lengths of AWAY keeps them apart.
        byRule(20, 600, 5, 115, 50, 19, 5, 19, 60);
        byRule(20, 600, 6, 50, 50, 19, 5, 19, 60);
        // A short LOOK alone makes AWAY as long as W.
        byRule(20, 600, 20, 50, 50, 1, 19, 1, 60);
        byRule(22, 600, 20, 110, 50, 1, 19, 1, 60);
    }

    private static void awayOnes() {
        // AWAY ahead of every LOOK ends nothing, however long, and isn't joined with what is behind the LOOK.
        byRule(20, 600, 10, 60, 9, 600, 60);
        byRule(20, 600, 10, 120, 9, 19, 60, 19, 60);
        byRule(20, 600, 10, 60, 9, 19, 60, 20, 60);
        byRule(20, 600, 10, 70, 9, 600, 9, 600, 10, 1, 60);
        byRule(1, 600, 10, 10, 9, 600, 9, 600, 10, 1, 60);
        byRule(20, 600, 0, 1, 1, 20, 60);
    }

    private static void most() {
        for (int most : new int[] {10, 11, 300, 599, 600}) {
            byRule(20, most, 0, most - 1, most - 1);
            byRule(20, most, 0, most, most);
            byRule(20, most, 0, most, most - 1, 1, 2);
            byRule(20, most, 0, most, most - 1, 1, 1);
            byRule(20, most, 0, most - 1, most - 1, 20, 1);
        }
        byRule(20, 10, 0, 10, 600);
    }

    private static void missing() {
        Check.sentence("It is missing without a LOOK (of LEAST or more), or as said.");
        byRule(20, 600, 0, NONE);
        byRule(20, 600, 50, NONE, 49, 50, 49, 50, 49, 50, 49, 50);
        byRule(20, 600, 49, 49, 49, 50, 49, 50, 49, 50, 49, 50);
        byRule(100, 600, 50, 50, 49, 99, 50);
        LookTimes x = Scene.gazed(50);
        x.cried(0, 0);
        Check.due("length, CRIED", x.length(0, 0), NONE);
        Check.due("read, CRIED", x.read(0, 0), NONE);
        x.cried(0, 1);
        Check.due("CRIED behind it", x.length(0, 0), 50);
    }

    private static void leans() {
        Check.sentence("A WATCHER LEANS (-50 .. 50; 0 at first): that much is added to the LENGTH of each TRIAL whose SCREEN "
            + "is ODD (0 .. 600 then).");
        for (int lean = -53; lean <= 53; lean++) {
            LookTimes x = Scene.planned(1, 0);
            boolean good = in(lean, -50, 50);
            taken("lean(" + lean + ")", x, x.lean(lean) ? 1 : NONE, 1, good ? NONE : 2);
            Scene.looks(x, 0, 8, 100, 100);
            Check.due("ODD", x.length(0, 0), good ? 100 + lean : 100);
            Check.due("not ODD", x.length(0, 1), 100);
        }
        int[][] due = {{49, -50, 0}, {50, -50, 0}, {51, -50, 1}, {1, -1, 0}, {1, -2, 0}, {549, 50, 599}, {550, 50, 600},
            {551, 50, 600}, {600, 1, 600}, {600, 50, 600}, {600, -50, 550}, {599, 1, 600}};
        for (int[] d : due) {
            LookTimes x = Scene.planned(1, 0);
            Scene.looks(x, 0, 8, d[0], d[0]);
            x.lean(d[1]);
            Check.due("length " + d[0] + ", LEAN " + d[1], x.length(0, 0), d[2]);
            Check.due("not ODD", x.length(0, 1), d[0]);
        }
        LookTimes x = Scene.planned(1, 1);
        Scene.looks(x, 0, 8, 100);
        x.rule(20, 60, 0);
        x.lean(50);
        Check.due("added to what MOST leaves", x.length(0, 0), 110);
        Check.due("a missing one stays missing", x.length(0, 1), NONE);
        x.lean(-50);
        x.rule(20, 600, 100);
        Check.due("LEAST goes by the LOOK, not by LEAN", x.length(0, 0), 50);
    }

    private static void readings() {
        Check.sentence("READINGS (0 at first): 0 the LENGTH; 1 CAP (10 .. 600; 200 at first) at most;");
        for (int reading = -3; reading <= 6; reading++) {
            LookTimes x = Scene.planned(0);
            taken("reading(" + reading + ", 200)", x, x.reading(reading, 200) ? 1 : NONE, 1, in(reading, 0, 3) ? NONE : 2);
        }
        for (int cap = 5; cap <= 605; cap++) {
            LookTimes x = Scene.planned(0);
            Scene.looks(x, 0, 8, 300);
            boolean good = in(cap, 10, 600);
            taken("reading(1, " + cap + ")", x, x.reading(1, cap) ? 1 : NONE, 1, good ? NONE : 2);
            Check.due("read", x.read(0, 0), good ? Math.min(cap, 300) : 300);
        }
        LookTimes x = Scene.planned(0);
        Scene.looks(x, 0, 8, 600);
        Check.due("READING 0 at first", x.read(0, 0), 600);
        x.reading(1, 599);
        Check.due("one over CAP", x.read(0, 0), 599);
        x.reading(1, 600);
        Check.due("as much as CAP", x.read(0, 0), 600);
        x.reading(0, 10);
        Check.due("CAP is for READING 1 alone", x.read(0, 0), 600);
        Check.due("LENGTH goes by none", x.length(0, 0), 600);
    }

    /** Only AFTER shows CAP before a READING is set: five BABIES, LENGTHS on this side of it or that. */
    private static void capAtFirst() {
        int[][] due = {{201, 200, 16}, {200, 199, 24}};
        for (int[] d : due) {
            LookTimes x = Scene.planned(1, 0);
            for (int i = 0; i < 5; i++) {
                Scene.looks(x, 0, 8, d[0], d[1]);
            }
            // MOST 300 and 600 with each W: READINGS 0 and 3 part them, READING 1 up to CAP, READING 2 not.
            Check.due("how many part " + d[0] + " and " + d[1], x.after(4), d[2]);
        }
    }

    private static void digits() {
        Check.sentence("2 ten times how many binary digits it has (0: 0);");
        int[][] due = {{1, 1}, {2, 2}, {3, 2}, {4, 3}, {7, 3}, {8, 4}, {15, 4}, {16, 5}, {31, 5}, {32, 6}, {63, 6}, {64, 7},
            {127, 7}, {128, 8}, {255, 8}, {256, 9}, {511, 9}, {512, 10}, {600, 10}};
        for (int[] d : due) {
            LookTimes x = Scene.planned(0);
            Scene.looks(x, 0, 8, d[0]);
            x.reading(2, 10);
            Check.due("digits of " + d[0], x.read(0, 0), 10 * d[1]);
        }
        LookTimes x = Scene.planned(1);
        Scene.looks(x, 0, 8, 50);
        x.reading(2, 10);
        x.lean(-50);
        Check.due("digits of 0", x.read(0, 0), 0);
        x.lean(-49);
        Check.due("digits of 1", x.read(0, 0), 10);
    }

    private static void shares() {
        Check.sentence("3 a hundred times it by the greatest LENGTH of that BABY (cut; 0 if that is 0).");
        LookTimes x = Scene.planned(0, 0, 0, 0, 0, 0, 0, 1);
        Scene.looks(x, 0, 8, 600, 599, 6, 5, 1, 300, 0, 10);
        Scene.looks(x, 0, 8, 1, 1);
        x.reading(3, 10);
        int[] due = {100, 99, 1, 0, 0, 50, NONE, 1};
        for (int trial = 0; trial < 8; trial++) {
            Check.due("TRIAL " + trial, x.read(0, trial), due[trial]);
        }
        Check.due("of that BABY", x.read(1, 0), 100);
        x.cried(0, 1);
        x.rule(20, 10, 0);
        Check.due("by the RULE", x.read(0, 0), 100);
        LookTimes y = Scene.planned(1, 1);
        Scene.looks(y, 0, 8, 3, 50);
        y.reading(3, 10);
        y.lean(-50);
        Check.due("the greatest is 0", y.read(0, 0), 0);
        Check.due("the greatest is 0", y.read(0, 1), 0);
        y.lean(-49);
        Check.due("the greatest is 1", y.read(0, 1), 100);
        Check.due("0 of it", y.read(0, 0), 0);
        LookTimes z = Scene.planned(0, 0, 0);
        Scene.looks(z, 0, 8, 200, 0, 400);
        z.reading(3, 10);
        Check.due("half", z.read(0, 0), 50);
        z.cried(0, 2);
        Check.due("what is missing isn't the greatest", z.read(0, 0), 100);
    }

    private static void onAndRow() {
        Check.sentence("Of a SCREEN: 0 FIRST, 1 HAND, 2 SHOWN, 3 KIND, 4 whether ODD. VOID for others, or if there is none such.");
        LookTimes x = Scene.staged();
        int[][] due = {{1, 1, 2, 0, 0}, {1, 1, 1, 1, 1}, {7, -2, 5, 2, 0}, {4, 0, 5, 3, 1}};
        for (int screen = -2; screen <= 6; screen++) {
            for (int what = -2; what <= 7; what++) {
                boolean there = in(screen, 0, 3) && in(what, 0, 4);
                Check.due("on(" + screen + ", " + what + ")", x.on(screen, what), there ? due[screen][what] : VOID);
            }
        }
        Check.sentence("How many TRIALS a PLAN has (k NONE), or the SCREEN of the k-th; NONE if there is none such.");
        Scene.addPlan(x, 3, 0, 3);
        Scene.addPlan(x);
        int[] row = {3, 0, 3};
        for (int k = -3; k <= 9; k++) {
            Check.due("row(0, " + k + ")", x.row(0, k), k == NONE ? 3 : in(k, 0, 2) ? row[k] : NONE);
            Check.due("row(1, " + k + ")", x.row(1, k), k == NONE ? 0 : NONE);
            Check.due("row(2, " + k + ")", x.row(2, k), NONE);
            Check.due("row(-1, " + k + ")", x.row(-1, k), NONE);
        }
    }

    private static void lengthsThatAreNot() {
        Check.sentence("The LENGTH of a TRIAL, with LEAN; NONE if it is missing, or there are none such.");
        LookTimes x = Scene.planned(1, 0, 1);
        Scene.addPlan(x, 0);
        Scene.looks(x, 0, 8, 10, 0, 30);
        Scene.looksOf(x, 1, 0, 8, 40);
        x.lean(5);
        int[][] due = {{15, NONE, 35}, {40, NONE, NONE}};
        for (int reading = 0; reading < 2; reading++) {
            x.reading(reading, 35);
            for (int baby = -2; baby <= 3; baby++) {
                for (int trial = -2; trial <= 8; trial++) {
                    int want = in(baby, 0, 1) && in(trial, 0, 2) ? due[baby][trial] : NONE;
                    Check.due("length(" + baby + ", " + trial + ")", x.length(baby, trial), want);
                    Check.due("read(" + baby + ", " + trial + ")", x.read(baby, trial), reading == 1 ? Math.min(35, want) : want);
                }
            }
        }
    }

    private static void leaves() {
        Check.sentence("A BABY is LEFT out by hand, or no more: true; false (REFUSED), also if it is so already.");
        LookTimes x = Scene.differing(1, 2, 4);
        for (int baby = 0; baby < 3; baby++) {
            Check.no("isn't LEFT already", x.leave(baby, false));
            Check.yes("leave(" + baby + ", true)", x.leave(baby, true));
            Check.no("is LEFT already", x.leave(baby, true));
            Check.due("LEFT", x.count(6), baby + 1);
            Check.due("SUM", x.odds(1), 7 >> baby + 1 << baby + 1);
        }
        Check.due("it can't be otherwise", x.status(2), 6);
        Check.yes("leave(1, false)", x.leave(1, false));
        Check.no("isn't LEFT now", x.leave(1, false));
        Check.due("LEFT", x.count(6), 2);
        Check.due("SUM", x.odds(1), 2);
        Check.no("no BABY 3", x.leave(3, true));
        Check.no("no BABY -1", x.leave(-1, false));
        Check.due("none such", x.status(0), 2);
    }

    private static void newObject() {
        Check.sentence("No SCREENS, PLANS, BABIES, LAWS.");
        LookTimes x = new LookTimes();
        for (int what = 0; what <= 6; what++) {
            Check.due("count(" + what + ")", x.count(what), 0);
        }
        Check.due("on(0, 0)", x.on(0, 0), VOID);
        Check.due("row(0, NONE)", x.row(0, NONE), NONE);
        Check.due("out(0, 0)", x.out(0, 0), NONE);
        Check.due("world(0, 0)", x.world(0, 0), NONE);
        Check.due("trial(0, 0)", x.trial(0, 0), NONE);
        Check.due("baby(0, 0, 8)", x.baby(0, 0, 8), NONE);
        Check.due("none such", x.status(0), 3);
        LookTimes y = new LookTimes();
        Check.due("the first SCREEN", y.screen(0, 0, 0, 0), 0);
        Check.due("is its own", new LookTimes().count(0), 0);
    }

    private static void counts() {
        Check.sentence("0 SCREENS, 1 PLANS, 2 BABIES, 3 LAWS, 4 CLAUSES, 5 bytes of the text, 6 who are LEFT. NONE for others.");
        LookTimes full = Scene.full();
        int[] due = {12, 4, 16, 2, 1, 500, 1};
        for (int what = -3; what <= 10; what++) {
            Check.due("count(" + what + ") of a full one", full.count(what), in(what, 0, 6) ? due[what] : NONE);
            Check.due("count(" + what + ") of a new one", new LookTimes().count(what), in(what, 0, 6) ? 0 : NONE);
        }
        for (int baby = 0; baby < 16; baby++) {
            Check.due("leave " + baby, full.leave(baby, true) ? 1 : 0, baby == 14 ? 0 : 1);
        }
        Check.due("all are LEFT", full.count(6), 16);
        Check.due("none is COUNTED", full.odds(0), 0);
    }

    private static void calls() {
        Check.sentence("An object is used for at most 512 calls after it has been made;");
        LookTimes x = Scene.planned(1, 0);
        x.baby(0, 0, 8);
        for (int made = 8; made < 511; made++) {
            x.liked(5, 0);
        }
        Check.due("the 512th call", x.status(0), 503);
    }
}
