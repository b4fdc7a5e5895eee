import java.util.ArrayList;
import java.util.Arrays;
import java.util.Comparator;
import java.util.HashSet;
import java.util.List;
import java.util.Set;

/** The document once more, in the plainest and slowest way, by other means than the class: every answer anew. */
final class Model {
    static final int NONE = -1;
    static final int VOID = Integer.MIN_VALUE;
    static final List<String> NAMES = List.of("odd", "fresh", "much", "last", "order", "tired", "liked", "age",
        "house", "total", "longest", "trials");
    static final Set<String> RESERVED = new HashSet<>(NAMES);
    static {
        RESERVED.addAll(List.of("law", "is", "out", "if"));
    }

    record Screen(int first, int hand, int shown, int kind) {
        boolean odd() {
            return first + hand != shown;
        }
    }

    static final class Baby {
        int plan;
        int house;
        int age;
        int cried = NONE;
        boolean left;
        final List<List<Integer>> gazes = new ArrayList<>();

        Baby() {
            for (int t = 0; t < 8; t++) {
                gazes.add(new ArrayList<>());
            }
        }

        Baby copy() {
            Baby b = new Baby();
            b.plan = plan;
            b.house = house;
            b.age = age;
            b.cried = cried;
            b.left = left;
            for (int t = 0; t < 8; t++) {
                b.gazes.get(t).addAll(gazes.get(t));
            }
            return b;
        }
    }

    record Image(List<Baby> babies, int w, int most, int least, int lean, int reading, int cap) {
    }

    record Token(String word, int place) {
    }

    String text = "";
    List<List<Token>> laws = new ArrayList<>();
    List<List<Token>> clauses = new ArrayList<>();
    final int[] liked = new int[5];
    final List<Screen> screens = new ArrayList<>();
    final List<List<Integer>> plans = new ArrayList<>();
    List<Baby> babies = new ArrayList<>();
    int w = 20;
    int most = 600;
    int least = 0;
    int lean = 0;
    int reading = 0;
    int cap = 200;
    int s = 0;
    int l = 1;
    int[] book;
    boolean lawsCame;
    final Image[] images = new Image[3];
    final int[] status = new int[3];

    // ---- the text

    int feed(int... numbers) {
        if (text.length() > 480) {
            return refuse(1);
        }
        StringBuilder more = new StringBuilder(text);
        for (int n : numbers) {
            more.append((char) (n >>> 24)).append((char) (n >>> 16 & 255));
            more.append((char) (n >>> 8 & 255)).append((char) (n & 255));
        }
        text = more.toString();
        return text.length();
    }

    boolean end(int n) {
        if (n < 0 || n > text.length()) {
            return refuse(2) != NONE;
        }
        text = text.substring(0, n);
        return true;
    }

    /** A machine of states, with a row that says of each open bracket whether it has been compared in. */
    int parse(List<List<Token>> newLaws, List<List<Token>> newClauses) {
        String state = "line";
        List<Boolean> compared = new ArrayList<>();
        Set<String> names = new HashSet<>();
        List<Token> current = null;
        int lines = 0;
        int at = 0;
        while (at < text.length()) {
            char c = text.charAt(at);
            if (c == ' ' || c == '\n') {
                at++;
                continue;
            }
            int to = at + 1;
            if (c >= 'a' && c <= 'z') {
                while (to < text.length() && text.charAt(to) >= 'a' && text.charAt(to) <= 'z') {
                    to++;
                }
            } else if (c >= '0' && c <= '9') {
                while (to < text.length() && text.charAt(to) >= '0' && text.charAt(to) <= '9') {
                    to++;
                }
            } else if ("+-*/<=();".indexOf(c) < 0) {
                return at;
            }
            String word = text.substring(at, to);
            switch (state) {
                case "line":
                    current = new ArrayList<>();
                    compared.clear();
                    compared.add(false);
                    if (word.equals("law") && newLaws.size() < 6) {
                        newLaws.add(current);
                        state = "name";
                    } else if (word.equals("out") && newClauses.size() < 4) {
                        newClauses.add(current);
                        state = "if";
                    } else {
                        return at;
                    }
                    break;
                case "name":
                    if (!word.matches("[a-z]{1,8}") || RESERVED.contains(word) || !names.add(word)) {
                        return at;
                    }
                    state = "is";
                    break;
                case "is":
                case "if":
                    if (!word.equals(state)) {
                        return at;
                    }
                    state = "operand";
                    break;
                case "operand":
                    if (word.equals("(") && compared.size() <= 8) {
                        compared.add(false);
                    } else if (word.matches("0*[0-9]{1,4}") || NAMES.contains(word)) {
                        state = "operator";
                    } else {
                        return at;
                    }
                    current.add(new Token(word, at));
                    break;
                default:
                    int top = compared.size() - 1;
                    if (word.equals(";") && top == 0) {
                        state = "line";
                        lines++;
                        break;
                    } else if (word.equals(")") && top > 0) {
                        compared.remove(top);
                    } else if ("<=".contains(word) && !compared.get(top)) {
                        compared.set(top, true);
                        state = "operand";
                    } else if ("+-*/".contains(word)) {
                        state = "operand";
                    } else {
                        return at;
                    }
                    current.add(new Token(word, at));
                    break;
            }
            at = to;
        }
        return state.equals("line") && lines > 0 ? NONE : text.length();
    }

    int fault() {
        return parse(new ArrayList<>(), new ArrayList<>());
    }

    int laws() {
        List<List<Token>> newLaws = new ArrayList<>();
        List<List<Token>> newClauses = new ArrayList<>();
        if (parse(newLaws, newClauses) != NONE) {
            return refuse(2);
        }
        laws = newLaws;
        clauses = newClauses;
        text = "";
        lawsCame = true;
        return laws.size();
    }

    /** Splits at the loosest sign outside of brackets, the last of its strength. */
    static int value(List<Token> e, int[] names) {
        for (String strength : new String[] {"<=", "+-", "*/"}) {
            int open = 0;
            for (int i = e.size() - 1; i > 0; i--) {
                String word = e.get(i).word();
                if (word.equals(")")) {
                    open++;
                } else if (word.equals("(")) {
                    open--;
                } else if (open == 0 && strength.contains(word)) {
                    return join(word, value(e.subList(0, i), names), value(e.subList(i + 1, e.size()), names));
                }
            }
        }
        String word = e.get(0).word();
        if (word.equals("(")) {
            return value(e.subList(1, e.size() - 1), names);
        }
        int name = NAMES.indexOf(word);
        return name >= 0 ? names[name] : Integer.parseInt(word);
    }

    static int join(String sign, long a, long b) {
        long r;
        switch (sign) {
            case "<":
                r = a < b ? 1 : 0;
                break;
            case "=":
                r = a == b ? 1 : 0;
                break;
            case "+":
                r = a + b;
                break;
            case "-":
                r = a - b;
                break;
            case "*":
                r = a * b;
                break;
            default:
                r = b == 0 ? 0 : a / b;
        }
        return (int) Math.max(-1000000, Math.min(1000000, r));
    }

    int say(int law, List<Integer> row, int trial, int age) {
        if (law == NONE) {
            return 100;
        }
        int[] names = new int[12];
        Screen screen = screens.get(row.get(trial));
        names[0] = screen.odd() ? 1 : 0;
        for (int t = 0; t < trial; t++) {
            names[1] += row.get(t).equals(row.get(trial)) ? 1 : 0;
        }
        names[2] = screen.shown();
        names[3] = trial > 0 && screens.get(row.get(trial - 1)).shown() == screen.shown() ? 1 : 0;
        names[4] = trial;
        if (laws.get(law).stream().anyMatch(t -> t.word().equals("tired"))) {
            for (int t = 0; t < trial; t++) {
                names[5] += say(law, row, t, age);
            }
        }
        names[5] /= 10;
        names[6] = liked[screen.kind()];
        names[7] = age;
        return Math.max(0, Math.min(600, value(laws.get(law), names)));
    }

    // ---- calls that change

    int refuse(int reason) {
        status[reason]++;
        return NONE;
    }

    static boolean in(int n, int from, int to) {
        return n >= from && n <= to;
    }

    boolean isScreen(int n) {
        return in(n, 0, screens.size() - 1);
    }

    boolean isPlan(int n) {
        return in(n, 0, plans.size() - 1);
    }

    boolean isBaby(int n) {
        return in(n, 0, babies.size() - 1);
    }

    boolean isLaw(int n) {
        return in(n, 0, laws.size() - 1);
    }

    List<Integer> rowOf(int baby) {
        return plans.get(babies.get(baby).plan);
    }

    boolean isTrial(int baby, int trial) {
        return isBaby(baby) && in(trial, 0, rowOf(baby).size() - 1);
    }

    boolean liked(int kind, int much) {
        if (!in(kind, 0, 4) || !in(much, 0, 99)) {
            return refuse(in(kind, 0, 4) ? 2 : 0) != NONE;
        }
        liked[kind] = much;
        return true;
    }

    int screen(int first, int hand, int shown, int kind) {
        if (!in(kind, 0, 4)) {
            return refuse(0);
        }
        if (screens.size() == 12) {
            return refuse(1);
        }
        if (!in(first, 0, 9) || !in(hand, -9, 9) || !in(shown, 0, 9) || !in(first + hand, 0, 9)) {
            return refuse(2);
        }
        screens.add(new Screen(first, hand, shown, kind));
        return screens.size() - 1;
    }

    int plan() {
        if (plans.size() == 4) {
            return refuse(1);
        }
        plans.add(new ArrayList<>());
        return plans.size() - 1;
    }

    int trial(int plan, int screen) {
        if (!isPlan(plan) || !isScreen(screen)) {
            return refuse(0);
        }
        if (plans.get(plan).size() == 8) {
            return refuse(1);
        }
        if (babies.stream().anyMatch(b -> b.plan == plan)) {
            return refuse(2);
        }
        plans.get(plan).add(screen);
        return plans.get(plan).size();
    }

    int baby(int plan, int house, int age) {
        if (!isPlan(plan)) {
            return refuse(0);
        }
        if (babies.size() == 16) {
            return refuse(1);
        }
        if (!in(house, 0, 5) || !in(age, 8, 60)) {
            return refuse(2);
        }
        Baby b = new Baby();
        b.plan = plan;
        b.house = house;
        b.age = age;
        babies.add(b);
        return babies.size() - 1;
    }

    int gaze(int baby, int trial, int length) {
        if (!isTrial(baby, trial)) {
            return refuse(0);
        }
        List<Integer> row = babies.get(baby).gazes.get(trial);
        if (row.size() == 8) {
            return refuse(1);
        }
        if (!in(length, 1, 600)) {
            return refuse(2);
        }
        row.add(length);
        return row.size();
    }

    boolean cried(int baby, int trial) {
        if (!isBaby(baby) || trial != NONE && !isTrial(baby, trial)) {
            return refuse(0) != NONE;
        }
        babies.get(baby).cried = trial;
        return true;
    }

    boolean rule(int newW, int newMost, int newLeast) {
        if (!in(newW, 1, 100) || !in(newMost, 10, 600) || !in(newLeast, 0, 100)) {
            return refuse(2) != NONE;
        }
        w = newW;
        most = newMost;
        least = newLeast;
        return true;
    }

    boolean lean(int newLean) {
        if (!in(newLean, -50, 50)) {
            return refuse(2) != NONE;
        }
        lean = newLean;
        return true;
    }

    boolean reading(int newReading, int newCap) {
        if (!in(newReading, 0, 3) || !in(newCap, 10, 600)) {
            return refuse(2) != NONE;
        }
        reading = newReading;
        cap = newCap;
        return true;
    }

    boolean leave(int baby, boolean left) {
        if (!isBaby(baby)) {
            return refuse(0) != NONE;
        }
        if (babies.get(baby).left == left) {
            return refuse(2) != NONE;
        }
        babies.get(baby).left = left;
        return true;
    }

    boolean spread(int newS, int newL) {
        if (!in(newS, 0, 100) || !in(newL, 1, 5)) {
            return refuse(2) != NONE;
        }
        s = newS;
        l = newL;
        return true;
    }

    boolean book(int n) {
        if (!in(n, 0, 16)) {
            return refuse(2) != NONE;
        }
        book = new int[] {w, most, least, reading, cap, n};
        lawsCame = false;
        return true;
    }

    boolean image(int k) {
        if (!in(k, 0, 2)) {
            return refuse(0) != NONE;
        }
        images[k] = new Image(copies(babies), w, most, least, lean, reading, cap);
        return true;
    }

    boolean restore(int k) {
        if (!in(k, 0, 2) || images[k] == null) {
            return refuse(0) != NONE;
        }
        babies = copies(images[k].babies());
        w = images[k].w();
        most = images[k].most();
        least = images[k].least();
        lean = images[k].lean();
        reading = images[k].reading();
        cap = images[k].cap();
        return true;
    }

    static List<Baby> copies(List<Baby> of) {
        List<Baby> all = new ArrayList<>();
        for (Baby b : of) {
            all.add(b.copy());
        }
        return all;
    }

    int world(int law, int seed) {
        if (law != NONE && !isLaw(law)) {
            return refuse(0);
        }
        if (!in(seed, 0, 1000000)) {
            return refuse(2);
        }
        return draw(law, seed);
    }

    int draw(int law, long seed) {
        long x = seed;
        int looks = 0;
        for (int b = 0; b < babies.size(); b++) {
            Baby baby = babies.get(b);
            for (List<Integer> gaze : baby.gazes) {
                gaze.clear();
            }
            for (int t = 0; t < rowOf(b).size(); t++) {
                if (baby.cried != NONE && t >= baby.cried) {
                    continue;
                }
                x = (x * 1103515245L + 12345L) % (1L << 31);
                long look = say(law, rowOf(b), t, baby.age) + x / 256 % (2 * s + 1) - s;
                x = (x * 1103515245L + 12345L) % (1L << 31);
                look *= x / 256 % 16 == 0 ? l : 1;
                baby.gazes.get(t).add((int) Math.max(1, Math.min(600, look)));
                looks++;
            }
        }
        return looks;
    }

    // ---- answers

    int on(int screen, int what) {
        if (!isScreen(screen) || !in(what, 0, 4)) {
            return VOID;
        }
        Screen sc = screens.get(screen);
        return new int[] {sc.first(), sc.hand(), sc.shown(), sc.kind(), sc.odd() ? 1 : 0}[what];
    }

    int row(int plan, int k) {
        if (!isPlan(plan)) {
            return NONE;
        }
        List<Integer> row = plans.get(plan);
        return k == NONE ? row.size() : in(k, 0, row.size() - 1) ? row.get(k) : NONE;
    }

    int bare(int baby, int trial) {
        Baby b = babies.get(baby);
        if (b.cried != NONE && trial >= b.cried) {
            return NONE;
        }
        // Looks are above 0, aways below; neighbours that are away are made one.
        List<Integer> parts = new ArrayList<>();
        for (int i = 0; i < b.gazes.get(trial).size(); i++) {
            int length = b.gazes.get(trial).get(i);
            boolean look = i % 2 == 0 && length >= least;
            int last = parts.size() - 1;
            if (look) {
                parts.add(length);
            } else if (last >= 0 && parts.get(last) < 0) {
                parts.set(last, parts.get(last) - length);
            } else {
                parts.add(-length);
            }
        }
        if (!parts.isEmpty() && parts.get(0) < 0) {
            parts.remove(0);
        }
        if (parts.isEmpty()) {
            return NONE;
        }
        int sum = 0;
        for (int part : parts) {
            if (part < 0 && -part >= w) {
                break;
            }
            sum += Math.max(0, part);
        }
        return Math.min(sum, most);
    }

    int length(int baby, int trial) {
        if (!isTrial(baby, trial) || bare(baby, trial) == NONE) {
            return NONE;
        }
        int more = screens.get(rowOf(baby).get(trial)).odd() ? lean : 0;
        return Math.max(0, Math.min(600, bare(baby, trial) + more));
    }

    int longest(int baby) {
        int longest = 0;
        for (int t = 0; t < rowOf(baby).size(); t++) {
            longest = Math.max(longest, length(baby, t));
        }
        return longest;
    }

    int read(int baby, int trial) {
        int length = length(baby, trial);
        if (length == NONE || reading == 0) {
            return length;
        }
        if (reading == 1) {
            return Math.min(cap, length);
        }
        if (reading == 2) {
            return length == 0 ? 0 : 10 * Integer.toBinaryString(length).length();
        }
        return longest(baby) == 0 ? 0 : 100 * length / longest(baby);
    }

    int says(int law, int plan, int trial, int age) {
        if (!isLaw(law) || !isPlan(plan) || !in(trial, 0, plans.get(plan).size() - 1) || !in(age, 8, 60)) {
            return NONE;
        }
        return say(law, plans.get(plan), trial, age);
    }

    int out(int baby, int what) {
        if (!isBaby(baby) || !in(what, 0, 1)) {
            return NONE;
        }
        int[] names = new int[12];
        names[7] = babies.get(baby).age;
        names[8] = babies.get(baby).house;
        for (int t = 0; t < rowOf(baby).size(); t++) {
            names[9] += Math.max(0, length(baby, t));
            names[11] += length(baby, t) == NONE ? 0 : 1;
        }
        names[10] = longest(baby);
        for (int c = 0; c < clauses.size(); c++) {
            if (value(clauses.get(c), names) != 0) {
                return what == 0 ? 1 : c;
            }
        }
        return what == 0 ? 0 : NONE;
    }

    static int difference(List<Integer> odd, List<Integer> others) {
        if (odd.isEmpty() || others.isEmpty()) {
            return VOID;
        }
        int a = odd.stream().mapToInt(i -> i).sum();
        int b = others.stream().mapToInt(i -> i).sum();
        return a * others.size() - b * odd.size();
    }

    int difference(int baby) {
        if (!isBaby(baby)) {
            return VOID;
        }
        List<Integer> odd = new ArrayList<>();
        List<Integer> others = new ArrayList<>();
        for (int t = 0; t < rowOf(baby).size(); t++) {
            if (read(baby, t) != NONE) {
                (screens.get(rowOf(baby).get(t)).odd() ? odd : others).add(read(baby, t));
            }
        }
        return difference(odd, others);
    }

    List<Integer> counted() {
        List<Integer> all = new ArrayList<>();
        for (int b = 0; b < babies.size(); b++) {
            if (!babies.get(b).left && out(b, 0) == 0 && difference(b) != VOID) {
                all.add(b);
            }
        }
        return all;
    }

    int[] differences(List<Integer> some) {
        return some.stream().mapToInt(this::difference).toArray();
    }

    static int ways(int[] d) {
        int sum = Arrays.stream(d).sum();
        int[] turned = new int[1 << d.length];
        int ways = 0;
        for (int bits = 0; bits < turned.length; bits++) {
            int high = bits == 0 ? 0 : Integer.highestOneBit(bits);
            turned[bits] = bits == 0 ? sum : turned[bits - high] - 2 * d[Integer.numberOfTrailingZeros(high)];
            ways += turned[bits] >= sum ? 1 : 0;
        }
        return ways;
    }

    static int thousand(int[] d) {
        return (int) (1000L * ways(d) / (1L << d.length));
    }

    int odds(int what) {
        int[] d = differences(counted());
        switch (what) {
            case 0:
                return d.length;
            case 1:
                return Arrays.stream(d).sum();
            case 2:
                return ways(d);
            case 3:
                return thousand(d);
            default:
                return VOID;
        }
    }

    int after(int what) {
        if (!in(what, 0, 4)) {
            return NONE;
        }
        int[] was = {w, most, reading};
        int[] best = null;
        double bestShare = 2;
        int rare = 0;
        for (int newW : new int[] {5, 10, 20, 40}) {
            for (int newMost : new int[] {150, 300, 600}) {
                for (int newReading = 0; newReading < 4; newReading++) {
                    w = newW;
                    most = newMost;
                    reading = newReading;
                    int[] d = differences(counted());
                    int ways = ways(d);
                    int thousand = (int) (1000L * ways / (1L << d.length));
                    double share = (double) ways / (1L << d.length);
                    rare += thousand < 50 ? 1 : 0;
                    if (share < bestShare) {
                        bestShare = share;
                        best = new int[] {w, most, reading, thousand};
                    }
                }
            }
        }
        w = was[0];
        most = was[1];
        reading = was[2];
        return what == 4 ? rare : best[what];
    }

    int leaving(int limit) {
        if (!in(limit, 1, 1000)) {
            return NONE;
        }
        List<Integer> counted = counted();
        int[] all = differences(counted);
        int mask = counted.stream().mapToInt(b -> 1 << b).sum();
        for (int n = 0; n <= 3; n++) {
            for (int bits = 0; bits < 1 << 16; bits++) {
                if (Integer.bitCount(bits) != n || (bits & ~mask) != 0) {
                    continue;
                }
                int without = bits;
                int[] d = java.util.stream.IntStream.range(0, all.length)
                    .filter(i -> (without >> counted.get(i) & 1) == 0).map(i -> all[i]).toArray();
                if (thousand(d) < limit) {
                    return bits;
                }
            }
        }
        return NONE;
    }

    int house(int house, int what) {
        if (!in(house, 0, 5) || !in(what, 0, 1)) {
            return VOID;
        }
        List<Integer> there = new ArrayList<>(counted());
        there.removeIf(b -> babies.get(b).house != house);
        return what == 0 ? there.size() : Arrays.stream(differences(there)).sum();
    }

    int joined(int what) {
        if (!in(what, 0, 1) || counted().isEmpty()) {
            return NONE;
        }
        List<Integer> found = new ArrayList<>();
        for (int h = 0; h < 6; h++) {
            int house = h;
            List<Integer> there = counted();
            if (there.removeIf(b -> babies.get(b).house == house)) {
                found.add(thousand(differences(there)));
            }
        }
        found.sort(null);
        return what == 0 ? found.get(0) : found.get(found.size() - 1);
    }

    int span(int to, int what) {
        if (!in(to, 0, 50) || !in(what, 0, 1)) {
            return NONE;
        }
        int was = lean;
        List<Integer> found = new ArrayList<>();
        for (lean = -to; lean <= to; lean++) {
            found.add(odds(3));
        }
        lean = was;
        found.sort(null);
        return what == 0 ? found.get(0) : found.get(found.size() - 1);
    }

    int worlds(int law, int seed, int n, int limit) {
        if (law != NONE && !isLaw(law) || !in(seed, 0, 1000000) || !in(n, 1, 10) || !in(limit, 0, 1000)) {
            return NONE;
        }
        List<Baby> was = copies(babies);
        int found = 0;
        for (int i = 0; i < n; i++) {
            draw(law, seed + i);
            found += odds(3) <= limit ? 1 : 0;
        }
        babies = was;
        return found;
    }

    /** A sign as a text, so that none is unlike every other. */
    String sign(int law, List<Integer> row, int age) {
        List<Integer> odd = new ArrayList<>();
        List<Integer> others = new ArrayList<>();
        for (int t = 0; t < row.size(); t++) {
            (screens.get(row.get(t)).odd() ? odd : others).add(say(law, row, t, age));
        }
        int d = difference(odd, others);
        return d == VOID ? "none" : d > 0 ? "above" : d < 0 ? "below" : "0";
    }

    int parts(int plan, int one, int other, int age) {
        if (!isPlan(plan) || !isLaw(one) || !isLaw(other) || !in(age, 8, 60)) {
            return NONE;
        }
        return sign(one, plans.get(plan), age).equals(sign(other, plans.get(plan), age)) ? 0 : 1;
    }

    record Found(List<Integer> row, int couples) {
    }

    Found next(int m, int age) {
        List<List<Integer>> rows = new ArrayList<>();
        grow(new ArrayList<>(), m, rows);
        rows.sort(Comparator.<List<Integer>>comparingInt(List::size).thenComparing((a, b) -> {
            for (int i = 0; i < a.size(); i++) {
                if (!a.get(i).equals(b.get(i))) {
                    return a.get(i) - b.get(i);
                }
            }
            return 0;
        }));
        Found best = null;
        for (List<Integer> row : rows) {
            int couples = 0;
            String[] signs = new String[laws.size()];
            for (int i = 0; i < signs.length; i++) {
                signs[i] = sign(i, row, age);
                for (int j = 0; j < i; j++) {
                    couples += signs[i].equals(signs[j]) ? 0 : 1;
                }
            }
            if (best == null || couples > best.couples()) {
                best = new Found(row, couples);
            }
        }
        return best;
    }

    void grow(List<Integer> row, int m, List<List<Integer>> into) {
        if (row.size() >= 2) {
            into.add(new ArrayList<>(row));
        }
        for (int sc = 0; sc < screens.size() && row.size() < m; sc++) {
            if (!row.contains(sc)) {
                row.add(sc);
                grow(row, m, into);
                row.remove(row.size() - 1);
            }
        }
    }

    int next(int m, int age, int k) {
        if (!in(m, 2, 4) || !in(age, 8, 60) || screens.size() < 2 || k < -2 || k > 3) {
            return NONE;
        }
        Found best = next(m, age);
        if (k < 0) {
            return k == NONE ? best.row().size() : best.couples();
        }
        return k < best.row().size() ? best.row().get(k) : NONE;
    }

    int fresh(int times) {
        int sum = 0;
        int n = 0;
        for (int b = 0; b < babies.size() && in(times, 0, 7); b++) {
            for (int t = 0; t < rowOf(b).size() && out(b, 0) == 0; t++) {
                int trial = t;
                List<Integer> row = rowOf(b);
                long ahead = row.subList(0, t).stream().filter(sc -> sc.equals(row.get(trial))).count();
                if (ahead == times && length(b, t) != NONE) {
                    sum += length(b, t);
                    n++;
                }
            }
        }
        return n == 0 ? NONE : sum / n;
    }

    int settled(int baby) {
        for (int t = 2; isBaby(baby) && t < rowOf(baby).size(); t++) {
            int[] four = {length(baby, t), length(baby, t - 1), length(baby, 0), length(baby, 1)};
            boolean missing = Arrays.stream(four).anyMatch(n -> n == NONE);
            if (!missing && four[0] + four[1] < (four[2] + four[3]) / 2.0) {
                return t;
            }
        }
        return NONE;
    }

    int apart(int law, int baby) {
        if (!isLaw(law) || baby != NONE && !isBaby(baby)) {
            return NONE;
        }
        int off = 0;
        for (int b : baby == NONE ? counted() : List.of(baby)) {
            for (int t = 0; t < rowOf(b).size(); t++) {
                if (bare(b, t) != NONE) {
                    off += Math.abs(bare(b, t) - say(law, rowOf(b), t, babies.get(b).age));
                }
            }
        }
        return off;
    }

    int nearest(int baby) {
        if (baby != NONE && !isBaby(baby) || baby == NONE && counted().isEmpty()) {
            return NONE;
        }
        int best = NONE;
        for (int law = laws.size() - 1; law >= 0; law--) {
            if (best == NONE || apart(law, baby) <= apart(best, baby)) {
                best = law;
            }
        }
        return best;
    }

    int kept() {
        if (book == null) {
            return NONE;
        }
        int bits = w != book[0] || most != book[1] || least != book[2] ? 1 : 0;
        bits += reading != book[3] || reading == 1 && cap != book[4] ? 2 : 0;
        bits += lawsCame ? 4 : 0;
        bits += babies.size() < book[5] ? 8 : 0;
        bits += babies.size() > book[5] ? 16 : 0;
        bits += count(6) > 0 ? 32 : 0;
        return bits + (lean != 0 ? 64 : 0);
    }

    int status(int reason) {
        return in(reason, 0, 2) ? status[reason] : NONE;
    }

    int count(int what) {
        if (!in(what, 0, 6)) {
            return NONE;
        }
        int left = (int) babies.stream().filter(b -> b.left).count();
        return new int[] {screens.size(), plans.size(), babies.size(), laws.size(), clauses.size(),
            text.length(), left}[what];
    }
}
