import java.util.ArrayList;
import java.util.List;

/**
 * What an object answers, call by call, so that two of them can be compared. At last it calls what changes too,
 * which brings out what no question asks for: bytes of the text, lengths of a GAZE, SPREAD, IMAGES.
 */
final class Seen {
    private final List<String> answers = new ArrayList<>();
    private final LookTimes x;

    private Seen(LookTimes x) {
        this.x = x;
    }

    static List<String> of(LookTimes x) {
        Seen seen = new Seen(x);
        seen.things();
        seen.babies();
        seen.sums();
        seen.laws();
        seen.hidden();
        return seen.answers;
    }

    private void note(String call, int answer) {
        answers.add(call + " " + answer);
    }

    private void things() {
        for (int what = 0; what <= 6; what++) {
            note("count " + what, x.count(what));
        }
        for (int screen = 0; screen < x.count(0); screen++) {
            for (int what = 0; what <= 3; what++) {
                note("on " + screen + " " + what, x.on(screen, what));
            }
        }
        for (int plan = 0; plan < x.count(1); plan++) {
            int trials = x.row(plan, LookTimes.NONE);
            note("row " + plan, trials);
            for (int k = 0; k < trials; k++) {
                note("row " + plan + " " + k, x.row(plan, k));
            }
        }
        note("kept", x.kept());
        note("fault", x.fault());
    }

    private void babies() {
        int babies = x.count(2);
        for (int baby = 0; baby < babies; baby++) {
            // Of many BABIES only some TRIALS: an object is good for 512 calls.
            for (int trial = babies > 8 ? 6 : 0; trial < 8; trial++) {
                note("length " + baby + " " + trial, x.length(baby, trial));
                note("read " + baby + " " + trial, x.read(baby, trial));
            }
            note("out " + baby, x.out(baby, 1));
            note("difference " + baby, x.difference(baby));
            note("settled " + baby, x.settled(baby));
        }
    }

    private void sums() {
        for (int what = 0; what <= 3; what++) {
            note("odds " + what, x.odds(what));
        }
        for (int what = 0; what <= 4; what++) {
            note("after " + what, x.after(what));
        }
        note("leaving", x.leaving(200));
        for (int house = 0; house < 6; house++) {
            note("house " + house, x.house(house, 1));
        }
        note("joined", x.joined(0) * 10000 + x.joined(1));
        note("span", x.span(9, 0) * 10000 + x.span(9, 1));
        note("fresh", x.fresh(0));
        note("fresh", x.fresh(1));
    }

    private void laws() {
        int laws = x.count(3);
        for (int law = 0; law < laws; law++) {
            for (int trial = 0; trial < 4; trial++) {
                note("says " + law + " " + trial, x.says(law, 0, trial, 20));
            }
            note("apart " + law, x.apart(law, LookTimes.NONE));
        }
        note("parts", x.parts(0, 0, 1, 20));
        note("nearest", x.nearest(LookTimes.NONE));
        note("next", x.next(2, 20, 0) * 100 + x.next(2, 20, 1));
        note("worlds", x.worlds(0, 7, 3, 400));
    }

    private void hidden() {
        note("gaze 0 0", x.gaze(0, 0, 1));
        note("gaze 15 7", x.gaze(15, 7, 1));
        note("world", x.world(LookTimes.NONE, 5));
        note("length", x.length(0, 0));
        note("length", x.length(1, 1));
        for (int k = 0; k < 3; k++) {
            note("restore " + k, x.restore(k) ? 1 : 0);
            note("BABIES", x.count(2));
            note("LEFT", x.count(6));
            note("SUM", x.odds(1));
            note("kept", x.kept());
        }
        note("laws", x.laws());
        note("says", x.says(0, 0, 0, 20));
        note("trial", x.trial(0, 0));
        note("a new BABY", x.baby(0, 0, 20));
        note("a new SCREEN", x.screen(0, 0, 0, 0));
        note("a new PLAN", x.plan());
    }
}
