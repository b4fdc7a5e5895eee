import java.util.Random;

/** Runs of chosen-by-lot calls, each answered by the class and by the plain Model of the document alike. */
public final class ModelTest {
    private static final int RUNS = 260;
    private static final int CALLS = 512;
    private final Random lots;
    private final LookTimes x = new LookTimes();
    private final Model m = new Model();
    private final String run;
    private int calls;
    private final boolean heavy;

    private ModelTest(int seed) {
        lots = new Random(seed);
        run = "run " + seed;
        heavy = seed % 13 == 0;
    }

    public static void main(String[] args) {
        int runs = args.length > 0 ? Integer.parseInt(args[0]) : RUNS;
        for (int seed = 0; seed < runs && Check.wrong() < 20; seed++) {
            new ModelTest(seed).play();
        }
        Check.close("ModelTest");
    }

    private void play() {
        int style = lots.nextInt(4);
        if (style != 0) {
            stage(style);
        }
        int wrong = Check.wrong();
        while (calls < CALLS && Check.wrong() == wrong) {
            step();
        }
    }

    private void due(String call, long got, long want) {
        calls++;
        Check.due(run + ", call " + calls + ": " + call, got, want);
    }

    private void due(String call, boolean got, boolean want) {
        due(call, got ? 1 : 0, want ? 1 : 0);
    }

    private int up(int below) {
        return lots.nextInt(below);
    }

    /** A number of 0 .. most - 1 mostly, at times one beside that. */
    private int some(int most) {
        int odd = lots.nextInt(14);
        if (odd == 0) {
            return NASTY[lots.nextInt(NASTY.length)];
        }
        return odd == 1 ? most : odd == 2 ? -1 : most <= 0 ? 0 : lots.nextInt(most);
    }

    private static final int[] NASTY = {-1, -2, -3, 16, 100, 601, 1000001, Integer.MAX_VALUE, Integer.MIN_VALUE};

    private int range(int from, int to) {
        int odd = lots.nextInt(20);
        if (odd == 0) {
            return lots.nextBoolean() ? from - 1 : to + 1;
        }
        if (odd == 1) {
            return NASTY[lots.nextInt(NASTY.length)];
        }
        if (odd == 2) {
            return lots.nextBoolean() ? from : to;
        }
        return from + lots.nextInt(to - from + 1);
    }

    /** Much at once, so that most of a run's calls find something. */
    private void stage(int style) {
        int screens = 2 + up(style == 1 ? 4 : 11);
        for (int i = 0; i < screens; i++) {
            int first = up(10);
            int hand = up(10) - first;
            int shown = lots.nextBoolean() ? first + hand : up(10);
            int kind = up(5);
            due("screen", x.screen(first, hand, shown, kind), m.screen(first, hand, shown, kind));
        }
        for (int i = 0; i < 5; i++) {
            int much = up(100);
            due("liked", x.liked(i, much), m.liked(i, much));
        }
        int plans = 1 + up(4);
        for (int p = 0; p < plans; p++) {
            due("plan", x.plan(), m.plan());
            int trials = up(9);
            for (int t = 0; t < trials; t++) {
                int screen = up(screens);
                due("trial", x.trial(p, screen), m.trial(p, screen));
            }
        }
        int babies = heavy ? 16 : 1 + up(11);
        for (int b = 0; b < babies; b++) {
            int plan = up(plans);
            int house = up(6);
            int age = 8 + up(53);
            due("baby", x.baby(plan, house, age), m.baby(plan, house, age));
            if (style == 2) {
                for (int k = 0; k < 10; k++) {
                    gaze(b, up(8), 1 + up(lots.nextBoolean() ? 60 : 600));
                }
            }
        }
        write(goodText());
        due("laws", x.laws(), m.laws());
        if (style == 3) {
            due("spread", x.spread(40, 3), m.spread(40, 3));
            due("world", x.world(-1, 5), m.world(-1, 5));
        }
    }

    private void gaze(int baby, int trial, int length) {
        due("gaze(" + baby + ", " + trial + ", " + length + ")", x.gaze(baby, trial, length),
            m.gaze(baby, trial, length));
    }

    private void step() {
        int kind = lots.nextInt(100);
        if (kind < 45) {
            change(lots.nextInt(18));
        } else if (kind < 60) {
            askOne(lots.nextInt(8));
        } else if (kind < 96) {
            askMany(lots.nextInt(14));
        } else {
            askDear(lots.nextInt(7));
        }
    }

    private void change(int which) {
        switch (which) {
            case 0: {
                int kind = some(5);
                int much = range(0, 99);
                due("liked(" + kind + ", " + much + ")", x.liked(kind, much), m.liked(kind, much));
                break;
            }
            case 1: {
                int first = range(0, 9);
                int hand = range(-9, 9);
                int shown = range(0, 9);
                int kind = some(5);
                due("screen(" + first + ", " + hand + ", " + shown + ", " + kind + ")",
                    x.screen(first, hand, shown, kind), m.screen(first, hand, shown, kind));
                break;
            }
            case 2: {
                if (lots.nextInt(4) == 0) {
                    due("plan()", x.plan(), m.plan());
                }
                int plan = some(m.plans.size());
                int screen = some(m.screens.size());
                due("trial(" + plan + ", " + screen + ")", x.trial(plan, screen), m.trial(plan, screen));
                break;
            }
            case 3: {
                int plan = some(m.plans.size());
                int house = range(0, 5);
                int age = range(8, 60);
                if (m.babies.size() < (heavy ? 17 : 11)) {
                    due("baby(" + plan + ", " + house + ", " + age + ")", x.baby(plan, house, age),
                        m.baby(plan, house, age));
                }
                break;
            }
            case 4: {
                int baby = some(m.babies.size());
                int trial = lots.nextInt(4) == 0 ? -1 : some(8);
                due("cried(" + baby + ", " + trial + ")", x.cried(baby, trial), m.cried(baby, trial));
                break;
            }
            case 5: {
                int w = range(1, 100);
                int most = range(10, 600);
                int least = range(0, 100);
                due("rule(" + w + ", " + most + ", " + least + ")", x.rule(w, most, least), m.rule(w, most, least));
                break;
            }
            case 6: {
                int lean = lots.nextInt(3) == 0 ? 0 : range(-50, 50);
                due("lean(" + lean + ")", x.lean(lean), m.lean(lean));
                break;
            }
            case 7: {
                int reading = range(0, 3);
                int cap = range(10, 600);
                due("reading(" + reading + ", " + cap + ")", x.reading(reading, cap), m.reading(reading, cap));
                break;
            }
            case 8: {
                int baby = some(m.babies.size());
                boolean left = lots.nextInt(3) == 0;
                due("leave(" + baby + ", " + left + ")", x.leave(baby, left), m.leave(baby, left));
                break;
            }
            case 9: {
                int s = range(0, 100);
                int l = range(1, 5);
                due("spread(" + s + ", " + l + ")", x.spread(s, l), m.spread(s, l));
                break;
            }
            case 10: {
                int law = some(m.laws.size());
                int seed = range(0, 1000000);
                due("world(" + law + ", " + seed + ")", x.world(law, seed), m.world(law, seed));
                break;
            }
            case 11: {
                int babies = range(0, 16);
                due("book(" + babies + ")", x.book(babies), m.book(babies));
                break;
            }
            case 12: {
                int k = some(3);
                due("image(" + k + ")", x.image(k), m.image(k));
                break;
            }
            case 13: {
                int k = some(3);
                if (lots.nextInt(2) == 0) {
                    due("restore(" + k + ")", x.restore(k), m.restore(k));
                }
                break;
            }
            case 14:
                write(lots.nextInt(3) == 0 ? goodText() : spoiled(goodText()));
                due("fault() of <" + m.text + ">", x.fault(), m.fault());
                if (lots.nextInt(3) != 0) {
                    due("laws()", x.laws(), m.laws());
                }
                break;
            default:
                for (int i = 0; i < 4; i++) {
                    gaze(some(m.babies.size()), some(8), range(1, 600));
                }
        }
    }

    private void askOne(int which) {
        int baby = some(m.babies.size());
        int trial = some(8);
        switch (which) {
            case 0: {
                int screen = some(m.screens.size());
                int what = some(5);
                due("on(" + screen + ", " + what + ")", x.on(screen, what), m.on(screen, what));
                break;
            }
            case 1: {
                int plan = some(m.plans.size());
                due("row(" + plan + ", " + trial + ")", x.row(plan, trial), m.row(plan, trial));
                break;
            }
            case 2: {
                int reason = some(3);
                due("status(" + reason + ")", x.status(reason), m.status(reason));
                break;
            }
            case 3: {
                int what = some(7);
                due("count(" + what + ")", x.count(what), m.count(what));
                break;
            }
            case 4:
                due("kept()", x.kept(), m.kept());
                break;
            case 5: {
                int n = range(0, 500);
                due("end(" + n + ")", x.end(n), m.end(n));
                break;
            }
            default:
                due("length(" + baby + ", " + trial + ")", x.length(baby, trial), m.length(baby, trial));
                due("read(" + baby + ", " + trial + ")", x.read(baby, trial), m.read(baby, trial));
        }
    }

    private void askMany(int which) {
        int baby = some(m.babies.size());
        int law = some(m.laws.size());
        int plan = some(m.plans.size());
        int age = range(8, 60);
        switch (which) {
            case 0: {
                int trial = some(8);
                due("says(" + law + ", " + plan + ", " + trial + ", " + age + ")", x.says(law, plan, trial, age),
                    m.says(law, plan, trial, age));
                break;
            }
            case 1: {
                int what = some(2);
                due("out(" + baby + ", " + what + ")", x.out(baby, what), m.out(baby, what));
                break;
            }
            case 2:
            case 3: {
                int what = some(4);
                due("odds(" + what + ")", x.odds(what), m.odds(what));
                break;
            }
            case 4: {
                int house = some(6);
                int what = some(2);
                due("house(" + house + ", " + what + ")", x.house(house, what), m.house(house, what));
                break;
            }
            case 5: {
                int what = some(2);
                due("joined(" + what + ")", x.joined(what), m.joined(what));
                break;
            }
            case 6: {
                int other = some(m.laws.size());
                due("parts(" + plan + ", " + law + ", " + other + ", " + age + ")", x.parts(plan, law, other, age),
                    m.parts(plan, law, other, age));
                break;
            }
            case 7: {
                int times = lots.nextBoolean() ? some(2) : some(8);
                due("fresh(" + times + ")", x.fresh(times), m.fresh(times));
                break;
            }
            case 8:
            case 9:
                due("settled(" + baby + ")", x.settled(baby), m.settled(baby));
                break;
            case 10:
                due("apart(" + law + ", " + baby + ")", x.apart(law, baby), m.apart(law, baby));
                break;
            case 11:
                due("nearest(" + baby + ")", x.nearest(baby), m.nearest(baby));
                break;
            default:
                due("difference(" + baby + ")", x.difference(baby), m.difference(baby));
        }
    }

    private void askDear(int which) {
        switch (which) {
            case 0: {
                int what = some(5);
                due("after(" + what + ")", x.after(what), m.after(what));
                break;
            }
            case 1: {
                int limit = lots.nextInt(3) == 0 ? range(1, 1000) : range(1, 60);
                due("leaving(" + limit + ")", x.leaving(limit), m.leaving(limit));
                break;
            }
            case 2: {
                int l = heavy ? range(0, 5) : range(0, 50);
                int what = some(2);
                due("span(" + l + ", " + what + ")", x.span(l, what), m.span(l, what));
                break;
            }
            case 3: {
                int law = some(m.laws.size());
                int seed = range(0, 1000000);
                int n = range(1, 10);
                int limit = range(0, 1000);
                due("worlds(" + law + ", " + seed + ", " + n + ", " + limit + ")", x.worlds(law, seed, n, limit),
                    m.worlds(law, seed, n, limit));
                break;
            }
            default: {
                int most = range(2, m.screens.size() > 7 && !heavy ? 3 : 4);
                int age = range(8, 60);
                int k = lots.nextInt(8) == 0 ? range(-2, 4) : lots.nextInt(6) - 2;
                due("next(" + most + ", " + age + ", " + k + ")", x.next(most, age, k), m.next(most, age, k));
            }
        }
    }

    // ---- texts

    private void write(String text) {
        if (lots.nextInt(6) != 0) {
            due("end(0)", x.end(0), m.end(0));
        }
        for (int at = 0; at < text.length(); at += 20) {
            int[] n = new int[5];
            for (int i = 0; i < 5; i++) {
                n[i] = Check.four(text, at + 4 * i);
            }
            due("feed", x.feed(n[0], n[1], n[2], n[3], n[4]), m.feed(n[0], n[1], n[2], n[3], n[4]));
        }
        if (lots.nextBoolean()) {
            due("end(" + text.length() + ")", x.end(text.length()), m.end(text.length()));
        }
    }

    private String goodText() {
        StringBuilder text = new StringBuilder();
        int lines = 1 + up(9);
        int outs = 0;
        int laws = 0;
        for (int i = 0; i < lines && text.length() < 400; i++) {
            if (lots.nextInt(4) == 0 && (outs < 4 || lots.nextInt(9) == 0)) {
                outs++;
                text.append("out").append(gap(true)).append("if").append(gap(true));
                text.append(lots.nextInt(3) == 0 ? expression(2) : CLAUSES[up(CLAUSES.length)]);
            } else if (laws < 6 || lots.nextInt(9) == 0) {
                laws++;
                text.append("law").append(gap(true)).append((char) ('a' + i)).append(gap(true)).append("is");
                text.append(gap(true)).append(lots.nextBoolean() ? expression(3) : LAWS[up(LAWS.length)]);
            } else {
                continue;
            }
            text.append(gap(false)).append(';').append(gap(false));
        }
        return text.length() > 500 ? text.substring(0, 500) : text.toString();
    }

    private static final String BYTES = "abz059+-*/<=(); \n\t.A\u00e9\u0000";
    private static final String[] CLAUSES = {"trials<2", "total < 150", "longest=600", "age<10", "house=5",
        "400<longest", "fresh", "total/trials<30", "trials=0"};
    private static final String[] LAWS = {"50+100*odd", "150-100*odd", "120-30*fresh", "80+60*odd-tired/4",
        "40+20*much", "liked*3", "10*age-order*50", "60+15*fresh+last*40", "100", "300-tired"};

    private String gap(boolean needed) {
        int kind = lots.nextInt(needed ? 3 : 5);
        return kind == 0 ? " " : kind == 1 ? "\n" : kind == 2 && needed ? "  " : "";
    }

    private String expression(int depth) {
        String e = sum(depth);
        int kind = lots.nextInt(5);
        return kind == 0 ? e + "<" + sum(depth) : kind == 1 ? e + "=" + sum(depth) : e;
    }

    private String sum(int depth) {
        StringBuilder e = new StringBuilder(product(depth));
        while (lots.nextInt(3) == 0) {
            e.append(gap(false)).append(lots.nextBoolean() ? '+' : '-').append(product(depth));
        }
        return e.toString();
    }

    private String product(int depth) {
        StringBuilder e = new StringBuilder(factor(depth));
        while (lots.nextInt(3) == 0) {
            e.append(gap(false)).append(lots.nextBoolean() ? '*' : '/').append(factor(depth));
        }
        return e.toString();
    }

    private String factor(int depth) {
        int kind = lots.nextInt(depth > 0 ? 6 : 4);
        if (kind < 2) {
            return Model.NAMES.get(up(12));
        }
        if (kind < 4) {
            int number = lots.nextInt(3) == 0 ? up(10001) : up(120);
            return (lots.nextInt(15) == 0 ? "00" : "") + number;
        }
        return "(" + gap(false) + expression(depth - 1) + gap(false) + ")";
    }

    private String spoiled(String text) {
        StringBuilder other = new StringBuilder(text);
        int at = up(text.length());
        switch (lots.nextInt(6)) {
            case 0:
                other.deleteCharAt(at);
                break;
            case 1:
                other.setCharAt(at, BYTES.charAt(up(BYTES.length())));
                break;
            case 2:
                other.setLength(at);
                break;
            case 3:
                other.insert(at, "(((((((((".substring(up(9)));
                break;
            case 4:
                other.insert(at, new String[] {" law ", " out ", "is", " if ", "odd", " abcdefgh ", "12345", ")"}[up(8)]);
                break;
            default:
                other.insert(at, (char) up(256));
        }
        return other.length() > 500 ? other.substring(0, 500) : other.toString();
    }
}
