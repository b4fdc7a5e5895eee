/** Objects to begin a test with. */
final class Scene {
    private Scene() {
    }

    /** SCREENS 0 (2 dolls, as they must be), 1 (odd, 1 doll), 2 (as they must be, 5), 3 (odd, 5). */
    static LookTimes staged() {
        LookTimes x = new LookTimes();
        x.screen(1, 1, 2, 0);
        x.screen(1, 1, 1, 1);
        x.screen(7, -2, 5, 2);
        x.screen(4, 0, 5, 3);
        return x;
    }

    /** A PLAN with these SCREENS. */
    static LookTimes planned(int... screens) {
        LookTimes x = staged();
        addPlan(x, screens);
        return x;
    }

    /** One more PLAN with these SCREENS: its number. */
    static int addPlan(LookTimes x, int... screens) {
        int plan = x.plan();
        for (int screen : screens) {
            x.trial(plan, screen);
        }
        return plan;
    }

    /** One BABY of PLAN 0 with one LOOK a TRIAL; 0 for none. */
    static int looks(LookTimes x, int house, int age, int... lengths) {
        return looksOf(x, 0, house, age, lengths);
    }

    /** One BABY of a PLAN with one LOOK a TRIAL; 0 for none. */
    static int looksOf(LookTimes x, int plan, int house, int age, int... lengths) {
        int baby = x.baby(plan, house, age);
        for (int trial = 0; trial < lengths.length; trial++) {
            if (lengths[trial] > 0) {
                x.gaze(baby, trial, lengths[trial]);
            }
        }
        return baby;
    }

    /** BABIES of a PLAN of SCREENS 0 and 1 whose DIFFERENCES (at first) are these. */
    static LookTimes differing(int... differences) {
        LookTimes x = planned(0, 1);
        for (int i = 0; i < differences.length; i++) {
            looks(x, i % 6, 8 + i, 300, 300 + differences[i]);
        }
        return x;
    }

    /** One BABY with these lengths in TRIAL 0, whose SCREEN isn't ODD. */
    static LookTimes gazed(int... lengths) {
        LookTimes x = planned(0, 0);
        x.baby(0, 0, 20);
        for (int length : lengths) {
            x.gaze(0, 0, length);
        }
        return x;
    }

    /** Some of all: 4 SCREENS, 3 PLANS (the last without a BABY), 5 BABIES, LAWS, a text, a BOOK, IMAGES 0 and 2. */
    static LookTimes rich() {
        LookTimes x = staged();
        x.liked(0, 12);
        x.liked(3, 90);
        addPlan(x, 0, 1, 2, 3, 0);
        addPlan(x, 1, 0);
        addPlan(x, 2, 3, 2);
        looksOf(x, 0, 0, 10, 100, 150, 90, 130, 30);
        looksOf(x, 1, 5, 20, 300, 210);
        looksOf(x, 0, 2, 30, 77, 60, 0, 99, 200);
        looksOf(x, 1, 0, 60, 40, 55);
        x.gaze(0, 0, 10);
        x.gaze(0, 0, 25);
        x.gaze(0, 0, 30);
        x.gaze(0, 0, 9);
        x.image(0);
        x.cried(2, 4);
        x.leave(3, true);
        x.rule(25, 250, 8);
        x.lean(7);
        x.reading(1, 190);
        x.spread(30, 3);
        x.image(2);
        looksOf(x, 0, 1, 44, 210, 260, 220, 230, 240);
        Check.laws(x, "law a is 90+60*odd-liked;law b is 150-30*fresh-tired;law c is age;out if trials<1;out if house=9;");
        x.book(4);
        Check.write(x, "law z is 77;");
        return x;
    }

    /** 12 SCREENS, 4 PLANS of 8 TRIALS, 16 BABIES with GAZES, one of 8 lengths, a text of 500 bytes. */
    static LookTimes full() {
        LookTimes x = new LookTimes();
        for (int i = 0; i < 12; i++) {
            x.screen(i % 5, 1, i % 5 + i % 3, i % 5);
        }
        for (int plan = 0; plan < 4; plan++) {
            addPlan(x, plan, plan + 1, plan + 2, plan + 3, plan + 4, plan + 5, plan + 6, plan + 8);
        }
        for (int baby = 0; baby < 16; baby++) {
            x.baby(baby % 4, baby % 6, 8 + baby);
        }
        Check.laws(x, "law a is 90+60*odd;law b is 150-tired;out if total<9;");
        x.spread(40, 2);
        x.world(0, 99);
        for (int k = 1; k < 8; k++) {
            x.gaze(15, 7, k);
        }
        x.leave(14, true);
        x.image(1);
        StringBuilder text = new StringBuilder("law ab is 1");
        for (int i = 0; i < 244; i++) {
            text.append("+1");
        }
        Check.write(x, text.append(';').toString());
        return x;
    }
}
