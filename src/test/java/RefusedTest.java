import java.util.List;
import java.util.function.Supplier;

/**
 * Every way in which a call is REFUSED: its answer, its reason (0, else 1, else 2), and that nothing else changes;
 * and that no question is ever REFUSED or changes anything.
 */
public final class RefusedTest {
    private static final int NONE = -1;
    private static final int VOID = Integer.MIN_VALUE;
    private static final int LOW = Integer.MIN_VALUE;
    private static final int HIGH = Integer.MAX_VALUE;
    private static final int NO_SUCH = 0;
    private static final int NO_ROOM = 1;
    private static final int CAN_NOT = 2;

    private interface Counted {
        int of(LookTimes x);
    }

    private interface Told {
        boolean of(LookTimes x);
    }

    public static void main(String[] args) {
        scenesDiffer();
        texts();
        likes();
        screens();
        plansAndTrials();
        babies();
        gazes();
        crying();
        rules();
        readings();
        leaving();
        spreadsAndWorlds();
        booksAndImages();
        sameAgain();
        questions();
        Check.close("RefusedTest");
    }

    private static void refused(String call, Supplier<LookTimes> scene, int reason, Counted made) {
        LookTimes x = scene.get();
        int[] ahead = {x.status(0), x.status(1), x.status(2)};
        Check.due(call, made.of(x), NONE);
        for (int k = 0; k < 3; k++) {
            Check.due(call + ": status(" + k + ")", x.status(k), ahead[k] + (k == reason ? 1 : 0));
        }
        same(call, Seen.of(scene.get()), Seen.of(x));
    }

    private static void denied(String call, Supplier<LookTimes> scene, int reason, Told made) {
        refused(call, scene, reason, x -> made.of(x) ? 1 : NONE);
    }

    private static void same(String call, List<String> ahead, List<String> behind) {
        Check.due(call + ": as many answers", behind.size(), ahead.size());
        for (int i = 0; i < Math.min(ahead.size(), behind.size()); i++) {
            Check.yes(call + " changed <" + ahead.get(i) + "> to <" + behind.get(i) + ">",
                ahead.get(i).equals(behind.get(i)));
        }
    }

    /** What is compared sees a change: each of these is one, and each is seen. */
    private static void scenesDiffer() {
        List<Told> changes = List.of(x -> x.end(3), x -> x.liked(0, 13), x -> x.screen(0, 0, 0, 0) == 4,
            x -> x.plan() == 3, x -> x.trial(2, 1) == 4, x -> x.baby(2, 0, 9) == 5, x -> x.gaze(0, 0, 9) == 6,
            x -> x.cried(2, 3), x -> x.cried(2, NONE), x -> x.rule(26, 250, 8), x -> x.rule(25, 249, 8),
            x -> x.rule(25, 250, 9), x -> x.lean(6), x -> x.reading(0, 190), x -> x.reading(1, 191),
            x -> x.leave(3, false), x -> x.spread(31, 3), x -> x.world(0, 3) > 0, x -> x.book(3), x -> x.image(1),
            x -> x.image(0), x -> x.restore(2), x -> x.laws() == 1,
            x -> x.feed(0x20202020, 0x20202020, 0x20202020, 0x20202020, 0x20202020) == 32);
        List<String> ahead = Seen.of(Scene.rich());
        for (int i = 0; i < changes.size(); i++) {
            LookTimes x = Scene.rich();
            Check.yes("change " + i + " is made", changes.get(i).of(x));
            Check.no("change " + i + " isn't seen", Seen.of(x).equals(ahead));
        }
    }

    private static LookTimes withText(int bytes) {
        LookTimes x = Scene.rich();
        for (int at = x.count(5); at < bytes; at += 20) {
            x.feed(0x20202020, 0x20202020, 0x20202020, 0x20202020, 0x20202020);
        }
        x.end(bytes);
        return x;
    }

    private static void texts() {
        for (int bytes : new int[] {481, 490, 492}) {
            refused("feed behind " + bytes, () -> withText(bytes), NO_ROOM, x -> x.feed(1, 2, 3, 4, 5));
        }
        refused("feed behind 500", Scene::full, NO_ROOM, x -> x.feed(LOW, -1, 0, 1, HIGH));
        for (int n : new int[] {LOW, -2, -1, 13, 14, 500, HIGH}) {
            denied("end(" + n + ")", Scene::rich, CAN_NOT, x -> x.end(n));
        }
        denied("end(501)", Scene::full, CAN_NOT, x -> x.end(501));
        denied("end(1) of none", LookTimes::new, CAN_NOT, x -> x.end(1));
        denied("end(-1) of none", LookTimes::new, CAN_NOT, x -> x.end(-1));
        refused("laws() of none", LookTimes::new, CAN_NOT, LookTimes::laws);
        for (String text : new String[] {"", " ", "\n \n", "law", "law a is 1", "law a is 1;law", "out if ;", "?",
            "law a is 1;law a is 1;", "law abcdefghi is 1;", "law a is 10000;", "law a is 1;?"}) {
            refused("laws() of <" + text + ">", () -> {
                LookTimes x = Scene.rich();
                Check.write(x, text);
                return x;
            }, CAN_NOT, LookTimes::laws);
        }
    }

    private static void likes() {
        for (int kind : new int[] {LOW, -1, 5, HIGH}) {
            denied("liked(" + kind + ", 1)", Scene::rich, NO_SUCH, x -> x.liked(kind, 1));
            denied("liked(" + kind + ", 100)", Scene::rich, NO_SUCH, x -> x.liked(kind, 100));
        }
        for (int much : new int[] {LOW, -1, 100, HIGH}) {
            denied("liked(0, " + much + ")", Scene::rich, CAN_NOT, x -> x.liked(0, much));
            denied("liked(4, " + much + ")", Scene::rich, CAN_NOT, x -> x.liked(4, much));
        }
    }

    private static void screens() {
        int[][] wrong = {{-1, 1, 0}, {10, -1, 0}, {9, -10, 0}, {0, 10, 0}, {0, 0, -1}, {0, 0, 10}, {0, -1, 0},
            {8, -9, 0}, {9, 1, 0}, {1, 9, 0}, {LOW, LOW, 0}, {HIGH, 1, 0}, {HIGH, HIGH, 2}, {LOW, HIGH, 0},
            {HIGH, LOW, 0}, {0, LOW, 0}, {0, HIGH, 0}, {0, 0, LOW}, {0, 0, HIGH}};
        for (int[] s : wrong) {
            String call = "screen(" + s[0] + ", " + s[1] + ", " + s[2] + ", ";
            refused(call + "0)", Scene::rich, CAN_NOT, x -> x.screen(s[0], s[1], s[2], 0));
            refused(call + "5), no KIND", Scene::rich, NO_SUCH, x -> x.screen(s[0], s[1], s[2], 5));
            refused(call + "0), no room", Scene::full, NO_ROOM, x -> x.screen(s[0], s[1], s[2], 0));
        }
        for (int kind : new int[] {LOW, -1, 5, HIGH}) {
            refused("a SCREEN of KIND " + kind, Scene::rich, NO_SUCH, x -> x.screen(1, 1, 1, kind));
            refused("a 13th of KIND " + kind, Scene::full, NO_SUCH, x -> x.screen(1, 1, 1, kind));
        }
        refused("a 13th SCREEN", Scene::full, NO_ROOM, x -> x.screen(1, 1, 1, 4));
    }

    private static void plansAndTrials() {
        refused("a 5th PLAN", Scene::full, NO_ROOM, LookTimes::plan);
        for (int plan : new int[] {LOW, -1, 3, HIGH}) {
            refused("trial(" + plan + ", 0)", Scene::rich, NO_SUCH, x -> x.trial(plan, 0));
            refused("trial(" + plan + ", 4)", Scene::rich, NO_SUCH, x -> x.trial(plan, 4));
        }
        for (int screen : new int[] {LOW, -1, 4, HIGH}) {
            refused("trial(2, " + screen + ")", Scene::rich, NO_SUCH, x -> x.trial(2, screen));
            refused("of a BABY's PLAN: trial(0, " + screen + ")", Scene::rich, NO_SUCH, x -> x.trial(0, screen));
        }
        refused("trial in a full PLAN, no SCREEN", Scene::full, NO_SUCH, x -> x.trial(3, 12));
        refused("trial in a full PLAN that a BABY has", Scene::full, NO_ROOM, x -> x.trial(3, 11));
        refused("trial in a full PLAN", () -> {
            LookTimes x = Scene.staged();
            Scene.addPlan(x, 0, 1, 2, 3, 3, 2, 1, 0);
            return x;
        }, NO_ROOM, x -> x.trial(0, 0));
        refused("trial in a PLAN that a BABY has", Scene::rich, CAN_NOT, x -> x.trial(0, 0));
        refused("trial in a PLAN that two BABIES have", Scene::rich, CAN_NOT, x -> x.trial(1, 3));
        refused("trial in a PLAN that the last BABY alone has", () -> {
            LookTimes x = Scene.rich();
            x.baby(2, 0, 8);
            return x;
        }, CAN_NOT, x -> x.trial(2, 0));
        refused("trial in a PLAN that a LEFT one alone has", () -> {
            LookTimes x = Scene.planned(0, 1);
            x.baby(0, 0, 8);
            x.leave(0, true);
            return x;
        }, CAN_NOT, x -> x.trial(0, 0));
        refused("trial in a PLAN without TRIALS that a BABY has", () -> {
            LookTimes x = Scene.planned();
            x.baby(0, 0, 8);
            return x;
        }, CAN_NOT, x -> x.trial(0, 0));
    }

    private static void babies() {
        for (int plan : new int[] {LOW, -1, 3, HIGH}) {
            refused("baby(" + plan + ", 0, 20)", Scene::rich, NO_SUCH, x -> x.baby(plan, 0, 20));
            refused("baby(" + plan + ", 6, 7)", Scene::rich, NO_SUCH, x -> x.baby(plan, 6, 7));
        }
        for (int house : new int[] {LOW, -1, 6, HIGH}) {
            refused("baby(0, " + house + ", 20)", Scene::rich, CAN_NOT, x -> x.baby(0, house, 20));
            refused("a 17th of HOUSE " + house, Scene::full, NO_ROOM, x -> x.baby(0, house, 20));
        }
        for (int age : new int[] {LOW, -1, 0, 7, 61, HIGH}) {
            refused("baby(0, 0, " + age + ")", Scene::rich, CAN_NOT, x -> x.baby(0, 0, age));
            refused("a 17th of AGE " + age, Scene::full, NO_ROOM, x -> x.baby(0, 0, age));
        }
        refused("a 17th BABY", Scene::full, NO_ROOM, x -> x.baby(3, 5, 60));
        refused("a 17th BABY of no PLAN", Scene::full, NO_SUCH, x -> x.baby(4, 5, 60));
    }

    private static void gazes() {
        for (int baby : new int[] {LOW, -1, 5, HIGH}) {
            refused("gaze(" + baby + ", 0, 1)", Scene::rich, NO_SUCH, x -> x.gaze(baby, 0, 1));
            refused("gaze(" + baby + ", 0, 0)", Scene::rich, NO_SUCH, x -> x.gaze(baby, 0, 0));
        }
        for (int trial : new int[] {LOW, -1, 2, 8, HIGH}) {
            refused("gaze(1, " + trial + ", 1)", Scene::rich, NO_SUCH, x -> x.gaze(1, trial, 1));
            refused("gaze(1, " + trial + ", 601)", Scene::rich, NO_SUCH, x -> x.gaze(1, trial, 601));
        }
        for (int length : new int[] {LOW, -1, 0, 601, HIGH}) {
            refused("gaze(0, 0, " + length + ")", Scene::rich, CAN_NOT, x -> x.gaze(0, 0, length));
            refused("gaze(2, 2, " + length + ") of an empty GAZE", Scene::rich, CAN_NOT, x -> x.gaze(2, 2, length));
            refused("a 9th length " + length, Scene::full, NO_ROOM, x -> x.gaze(15, 7, length));
        }
        refused("a 9th length", Scene::full, NO_ROOM, x -> x.gaze(15, 7, 600));
        refused("gaze of no BABY", LookTimes::new, NO_SUCH, x -> x.gaze(0, 0, 1));
        refused("gaze in a PLAN without TRIALS", () -> {
            LookTimes x = Scene.planned();
            x.baby(0, 0, 8);
            return x;
        }, NO_SUCH, x -> x.gaze(0, 0, 1));
    }

    private static void crying() {
        for (int baby : new int[] {LOW, -1, 5, HIGH}) {
            denied("cried(" + baby + ", 0)", Scene::rich, NO_SUCH, x -> x.cried(baby, 0));
            denied("cried(" + baby + ", NONE)", Scene::rich, NO_SUCH, x -> x.cried(baby, NONE));
        }
        for (int trial : new int[] {LOW, -2, 5, 8, HIGH}) {
            denied("cried(2, " + trial + ")", Scene::rich, NO_SUCH, x -> x.cried(2, trial));
        }
        denied("cried(15, 8)", Scene::full, NO_SUCH, x -> x.cried(15, 8));
        denied("cried in a PLAN without TRIALS", () -> {
            LookTimes x = Scene.planned();
            x.baby(0, 0, 8);
            return x;
        }, NO_SUCH, x -> x.cried(0, 0));
    }

    private static void rules() {
        for (int w : new int[] {LOW, -1, 0, 101, HIGH}) {
            denied("rule(" + w + ", 100, 1)", Scene::rich, CAN_NOT, x -> x.rule(w, 100, 1));
        }
        for (int most : new int[] {LOW, -1, 9, 601, HIGH}) {
            denied("rule(10, " + most + ", 1)", Scene::rich, CAN_NOT, x -> x.rule(10, most, 1));
        }
        for (int least : new int[] {LOW, -1, 101, HIGH}) {
            denied("rule(10, 100, " + least + ")", Scene::rich, CAN_NOT, x -> x.rule(10, 100, least));
        }
        for (int lean : new int[] {LOW, -51, 51, HIGH}) {
            denied("lean(" + lean + ")", Scene::rich, CAN_NOT, x -> x.lean(lean));
        }
    }

    private static void readings() {
        for (int reading : new int[] {LOW, -1, 4, HIGH}) {
            denied("reading(" + reading + ", 100)", Scene::rich, CAN_NOT, x -> x.reading(reading, 100));
        }
        for (int cap : new int[] {LOW, -1, 0, 9, 601, HIGH}) {
            denied("reading(0, " + cap + ")", Scene::rich, CAN_NOT, x -> x.reading(0, cap));
            denied("reading(1, " + cap + ")", Scene::rich, CAN_NOT, x -> x.reading(1, cap));
        }
    }

    private static void leaving() {
        for (int baby : new int[] {LOW, -1, 5, HIGH}) {
            denied("leave(" + baby + ", true)", Scene::rich, NO_SUCH, x -> x.leave(baby, true));
            denied("leave(" + baby + ", false)", Scene::rich, NO_SUCH, x -> x.leave(baby, false));
        }
        denied("leave(3, true) already", Scene::rich, CAN_NOT, x -> x.leave(3, true));
        denied("leave(0, false) already", Scene::rich, CAN_NOT, x -> x.leave(0, false));
    }

    private static void spreadsAndWorlds() {
        for (int s : new int[] {LOW, -1, 101, HIGH}) {
            denied("spread(" + s + ", 2)", Scene::rich, CAN_NOT, x -> x.spread(s, 2));
        }
        for (int l : new int[] {LOW, -1, 0, 6, HIGH}) {
            denied("spread(2, " + l + ")", Scene::rich, CAN_NOT, x -> x.spread(2, l));
        }
        for (int law : new int[] {LOW, -2, 3, HIGH}) {
            refused("world(" + law + ", 1)", Scene::rich, NO_SUCH, x -> x.world(law, 1));
            refused("world(" + law + ", -1)", Scene::rich, NO_SUCH, x -> x.world(law, -1));
        }
        for (int seed : new int[] {LOW, -1, 1000001, HIGH}) {
            refused("world(0, " + seed + ")", Scene::rich, CAN_NOT, x -> x.world(0, seed));
            refused("world(NONE, " + seed + ")", Scene::rich, CAN_NOT, x -> x.world(NONE, seed));
        }
    }

    private static void booksAndImages() {
        for (int babies : new int[] {LOW, -1, 17, HIGH}) {
            denied("book(" + babies + ")", Scene::rich, CAN_NOT, x -> x.book(babies));
            denied("a first book(" + babies + ")", LookTimes::new, CAN_NOT, x -> x.book(babies));
        }
        for (int k : new int[] {LOW, -1, 3, HIGH}) {
            denied("image(" + k + ")", Scene::rich, NO_SUCH, x -> x.image(k));
            denied("restore(" + k + ")", Scene::rich, NO_SUCH, x -> x.restore(k));
        }
        denied("restore(1), never kept", Scene::rich, NO_SUCH, x -> x.restore(1));
        for (int k = 0; k < 3; k++) {
            int image = k;
            denied("restore(" + k + ") of a new object", LookTimes::new, NO_SUCH, x -> x.restore(image));
        }
    }

    /** Only leave is REFUSED for being so already: all others are taken, and change nothing. */
    private static void sameAgain() {
        List<Told> calls = List.of(x -> x.end(12), x -> x.liked(0, 12), x -> x.cried(2, 4), x -> x.cried(0, NONE),
            x -> x.rule(25, 250, 8), x -> x.lean(7), x -> x.reading(1, 190), x -> x.spread(30, 3), x -> x.fault() == NONE);
        List<String> ahead = Seen.of(Scene.rich());
        for (int i = 0; i < calls.size(); i++) {
            LookTimes x = Scene.rich();
            Check.yes("the same again " + i, calls.get(i).of(x));
            for (int reason = 0; reason < 3; reason++) {
                Check.due("the same again " + i + ", refused", x.status(reason), 0);
            }
            same("the same again " + i, ahead, Seen.of(x));
        }
    }

    /** All that can be asked wrongly: NONE or VOID, not REFUSED, and nothing changes. */
    private static void questions() {
        int[] wild = {LOW, LOW + 1, -1000001, -601, -51, -3, -2, 17, 61, 101, 501, 1001, 1000001, HIGH - 1, HIGH};
        for (int n : wild) {
            LookTimes x = Scene.rich();
            ask(x, n);
            for (int reason = 0; reason < 3; reason++) {
                Check.due("questions of " + n + ", refused", x.status(reason), 0);
            }
            same("questions of " + n, Seen.of(Scene.rich()), Seen.of(x));
            LookTimes none = new LookTimes();
            ask(none, n);
            same("questions of " + n + " to a new object", Seen.of(new LookTimes()), Seen.of(none));
        }
    }

    private static void none(String call, int n, int answer) {
        Check.due(call + " by " + n, answer, NONE);
    }

    private static void noValue(String call, int n, int answer) {
        Check.due(call + " by " + n, answer, VOID);
    }

    private static void ask(LookTimes x, int n) {
        noValue("on", n, x.on(n, 0));
        noValue("on", n, x.on(0, n));
        none("row", n, x.row(n, 0));
        none("row", n, x.row(n, NONE));
        none("row", n, x.row(0, n));
        none("length", n, x.length(n, 0));
        none("length", n, x.length(0, n));
        none("read", n, x.read(n, 0));
        none("read", n, x.read(0, n));
        none("says", n, x.says(n, 0, 0, 20));
        none("says", n, x.says(0, n, 0, 20));
        none("says", n, x.says(0, 0, n, 20));
        none("out", n, x.out(n, 0));
        none("out", n, x.out(0, n));
        noValue("difference", n, x.difference(n));
        noValue("odds", n, x.odds(n));
        none("after", n, x.after(n));
        noValue("house", n, x.house(n, 0));
        noValue("house", n, x.house(0, n));
        none("joined", n, x.joined(n));
        none("span", n, x.span(5, n));
        none("worlds", n, x.worlds(n, 0, 1, 5));
        none("worlds", n, x.worlds(NONE, 0, n, 5));
        none("parts", n, x.parts(n, 0, 1, 20));
        none("parts", n, x.parts(0, n, 1, 20));
        none("parts", n, x.parts(0, 0, n, 20));
        none("next", n, x.next(n, 20, NONE));
        none("fresh", n, x.fresh(n));
        none("settled", n, x.settled(n));
        none("apart", n, x.apart(n, 0));
        none("apart", n, x.apart(0, n));
        none("nearest", n, x.nearest(n));
        none("status", n, x.status(n));
        none("count", n, x.count(n));
        // What has its own bounds: AGES, limits, LEANS, seeds, which SCREEN of a row.
        if (n < 8 || n > 60) {
            none("says", n, x.says(0, 0, 0, n));
            none("parts", n, x.parts(0, 0, 1, n));
            none("next", n, x.next(2, n, NONE));
        }
        if (n < 1 || n > 1000) {
            none("leaving", n, x.leaving(n));
            none("worlds", n, x.worlds(NONE, 0, 1, n));
        }
        if (n < 0 || n > 50) {
            none("span", n, x.span(n, 0));
        }
        if (n < 0 || n > 1000000) {
            none("worlds", n, x.worlds(NONE, n, 1, 5));
        }
        if (n != -2) {
            none("next", n, x.next(2, 20, n));
        }
    }
}
