/** How long babies look at screens, and what may be said of it. See the document's promises 1 to 44. */
public final class LookTimes {
    public static final int NONE = -1;
    public static final int VOID = -2147483648;

    private static final int NO_SUCH = 0;
    private static final int NO_ROOM = 1;
    private static final int CAN_NOT = 2;
    private static final int REASONS = 3;

    private static final int MAX_KINDS = 5;
    private static final int MAX_LIKED = 99;
    private static final int MAX_SCREENS = 12;
    private static final int MAX_DOLLS = 9;
    private static final int MAX_PLANS = 4;
    private static final int MAX_TRIALS = 8;
    private static final int MAX_BABIES = 16;
    private static final int MAX_HOUSES = 6;
    private static final int MIN_AGE = 8;
    private static final int MAX_AGE = 60;
    private static final int MAX_GAZE = 8;
    private static final int LONGEST = 600;
    private static final int MAX_IMAGES = 3;
    private static final int MAX_LEAN = 50;
    private static final int READINGS = 4;
    private static final int MAX_SPREAD = 100;
    private static final int MAX_LONG = 5;
    private static final int MAX_SEED = 1000000;
    private static final int MAX_WORLDS = 10;
    private static final int THOUSAND = 1000;
    private static final int RARE = 50;
    private static final int SAID_WITHOUT_LAW = 100;
    private static final int MIN_ROW = 2;
    private static final int MAX_ROW = 4;
    private static final int ASK_COUPLES = -2;

    private static final int MAX_TEXT = 500;
    private static final int FED = 20;
    private static final int MAX_LAWS = 6;
    private static final int MAX_CLAUSES = 4;
    private static final int MAX_NAME = 8;
    private static final int MAX_DEPTH = 8;
    private static final int MAX_NUMBER = 9999;
    private static final int MAX_WORKED = 1000000;
    private static final int STACK = 64;

    /** Every word with a meaning, each filled up to eight letters: first the names, then those of the LINES. */
    private static final String WORDS =
        "odd     fresh   much    last    order   tired   liked   age     house   total   longest trials  law     is      out     if      ";
    private static final int NAMES = 12;
    private static final int WORD_COUNT = 16;
    private static final int ODD = 0;
    private static final int FRESH = 1;
    private static final int MUCH = 2;
    private static final int LAST = 3;
    private static final int ORDER = 4;
    private static final int TIRED = 5;
    private static final int LIKED = 6;
    private static final int AGE = 7;
    private static final int HOUSE = 8;
    private static final int TOTAL = 9;
    private static final int LONGEST_OF = 10;
    private static final int TRIALS_OF = 11;

    // A TOKEN is one number: up to MAX_NUMBER a number's value, then words by their place in WORDS, then signs.
    private static final int FIRST_WORD = 10000;
    private static final int LAW_WORD = FIRST_WORD + 12;
    private static final int IS_WORD = FIRST_WORD + 13;
    private static final int OUT_WORD = FIRST_WORD + 14;
    private static final int IF_WORD = FIRST_WORD + 15;
    private static final int OTHER_WORD = FIRST_WORD + WORD_COUNT;
    private static final int FIRST_SIGN = 20000;
    private static final int HUGE_NUMBER = 30000;
    private static final int TEXT_END = 30001;
    private static final int NO_TOKEN = 30002;

    private static final int[] AFTER_W = {5, 10, 20, 40};
    private static final int[] AFTER_MOST = {150, 300, 600};

    private final int[] refusals;
    private final Text text;
    private final Parser parser;
    private final Program program;
    private final Stage stage;
    private final Lab lab;
    private final Lab spare;
    private final Lab[] images;
    private final Teller teller;
    private final Meter meter;
    private final Odds tally;
    private final Hindsight hindsight;
    private final Finder finder;
    private final Book journal;

    public LookTimes() {
        refusals = new int[REASONS];
        text = new Text();
        parser = new Parser(text);
        program = new Program();
        stage = new Stage();
        lab = new Lab();
        spare = new Lab();
        images = new Lab[MAX_IMAGES];
        teller = new Teller(stage, lab, program);
        meter = new Meter(stage, lab, program);
        tally = new Odds(lab, meter);
        hindsight = new Hindsight(lab, tally);
        finder = new Finder(stage, program, teller);
        journal = new Book();
    }

    public int feed(int a, int b, int c, int d, int e) {
        if (text.size + FED > MAX_TEXT) {
            return refuse(NO_ROOM);
        }
        text.append(a);
        text.append(b);
        text.append(c);
        text.append(d);
        text.append(e);
        return text.size;
    }

    public boolean end(int n) {
        if (n < 0 || n > text.size) {
            return deny(CAN_NOT);
        }
        text.size = n;
        return true;
    }

    public int fault() {
        return parser.findFault();
    }

    public int laws() {
        if (parser.findFault() != NONE) {
            return refuse(CAN_NOT);
        }
        program.take(parser.draft);
        finder.forget();
        text.size = 0;
        journal.lawsCame = true;
        return program.laws;
    }

    public boolean liked(int kind, int much) {
        if (!within(kind, 0, MAX_KINDS - 1)) {
            return deny(NO_SUCH);
        }
        if (!within(much, 0, MAX_LIKED)) {
            return deny(CAN_NOT);
        }
        stage.likes[kind] = much;
        finder.forget();
        return true;
    }

    public int screen(int first, int hand, int shown, int kind) {
        if (!within(kind, 0, MAX_KINDS - 1)) {
            return refuse(NO_SUCH);
        }
        if (stage.screens >= MAX_SCREENS) {
            return refuse(NO_ROOM);
        }
        boolean dolls = within(first, 0, MAX_DOLLS) && within(shown, 0, MAX_DOLLS);
        if (!dolls || !within(hand, -MAX_DOLLS, MAX_DOLLS) || !within(first + hand, 0, MAX_DOLLS)) {
            return refuse(CAN_NOT);
        }
        finder.forget();
        return stage.addScreen(first, hand, shown, kind);
    }

    public int on(int screen, int what) {
        if (!stage.hasScreen(screen)) {
            return VOID;
        }
        switch (what) {
            case 0:
                return stage.firsts[screen];
            case 1:
                return stage.hands[screen];
            case 2:
                return stage.shown[screen];
            case 3:
                return stage.kinds[screen];
            case 4:
                return stage.isOdd(screen) ? 1 : 0;
            default:
                return VOID;
        }
    }

    public int plan() {
        if (stage.plans >= MAX_PLANS) {
            return refuse(NO_ROOM);
        }
        return stage.addPlan();
    }

    public int trial(int plan, int screen) {
        if (!stage.hasPlan(plan) || !stage.hasScreen(screen)) {
            return refuse(NO_SUCH);
        }
        if (stage.sizes[plan] >= MAX_TRIALS) {
            return refuse(NO_ROOM);
        }
        if (lab.usesPlan(plan)) {
            return refuse(CAN_NOT);
        }
        return stage.addTrial(plan, screen);
    }

    public int row(int plan, int k) {
        if (!stage.hasPlan(plan)) {
            return NONE;
        }
        if (k == NONE) {
            return stage.sizes[plan];
        }
        return stage.hasTrial(plan, k) ? stage.screenOf(plan, k) : NONE;
    }

    public int baby(int plan, int house, int age) {
        if (!stage.hasPlan(plan)) {
            return refuse(NO_SUCH);
        }
        if (lab.babies >= MAX_BABIES) {
            return refuse(NO_ROOM);
        }
        if (!within(house, 0, MAX_HOUSES - 1) || !within(age, MIN_AGE, MAX_AGE)) {
            return refuse(CAN_NOT);
        }
        return lab.addBaby(plan, house, age);
    }

    public int gaze(int baby, int trial, int length) {
        if (!hasBabyTrial(baby, trial)) {
            return refuse(NO_SUCH);
        }
        if (lab.gazeSize(baby, trial) >= MAX_GAZE) {
            return refuse(NO_ROOM);
        }
        if (!within(length, 1, LONGEST)) {
            return refuse(CAN_NOT);
        }
        return lab.addLength(baby, trial, length);
    }

    public boolean cried(int baby, int trial) {
        if (!lab.hasBaby(baby) || trial != NONE && !hasBabyTrial(baby, trial)) {
            return deny(NO_SUCH);
        }
        lab.criedFrom[baby] = trial;
        return true;
    }

    public boolean rule(int w, int most, int least) {
        if (!within(w, 1, 100) || !within(most, 10, LONGEST) || !within(least, 0, 100)) {
            return deny(CAN_NOT);
        }
        lab.w = w;
        lab.most = most;
        lab.least = least;
        return true;
    }

    public boolean lean(int lean) {
        if (!within(lean, -MAX_LEAN, MAX_LEAN)) {
            return deny(CAN_NOT);
        }
        lab.leaning = lean;
        return true;
    }

    public boolean reading(int reading, int cap) {
        if (!within(reading, 0, READINGS - 1) || !within(cap, 10, LONGEST)) {
            return deny(CAN_NOT);
        }
        lab.readBy = reading;
        lab.cap = cap;
        return true;
    }

    public int length(int baby, int trial) {
        return hasBabyTrial(baby, trial) ? meter.leanedLength(baby, trial) : NONE;
    }

    public int read(int baby, int trial) {
        if (!hasBabyTrial(baby, trial)) {
            return NONE;
        }
        meter.measure(baby);
        return meter.readingAt(trial);
    }

    public int says(int law, int plan, int trial, int age) {
        if (!program.hasLaw(law) || !stage.hasTrial(plan, trial) || !within(age, MIN_AGE, MAX_AGE)) {
            return NONE;
        }
        teller.tellPlan(law, plan, age);
        return teller.said[trial];
    }

    public int out(int baby, int what) {
        if (!lab.hasBaby(baby) || !within(what, 0, 1)) {
            return NONE;
        }
        meter.measure(baby);
        int clause = meter.clauseAgainst(baby);
        if (what == 1) {
            return clause;
        }
        return clause == NONE ? 0 : 1;
    }

    public boolean leave(int baby, boolean left) {
        if (!lab.hasBaby(baby)) {
            return deny(NO_SUCH);
        }
        if (lab.left[baby] == left) {
            return deny(CAN_NOT);
        }
        lab.left[baby] = left;
        return true;
    }

    public int difference(int baby) {
        if (!lab.hasBaby(baby)) {
            return VOID;
        }
        meter.measure(baby);
        return meter.differenceOf(baby);
    }

    public int odds(int what) {
        if (!within(what, 0, 3)) {
            return VOID;
        }
        tally.countAll();
        switch (what) {
            case 0:
                return tally.counted;
            case 1:
                return tally.sumOf(tally.allBits());
            case 2:
                return tally.waysWithout(0);
            default:
                return tally.thousandWithout(0);
        }
    }

    public int after(int what) {
        if (!within(what, 0, 4)) {
            return NONE;
        }
        hindsight.lookBack();
        switch (what) {
            case 0:
                return hindsight.bestW;
            case 1:
                return hindsight.bestMost;
            case 2:
                return hindsight.bestReading;
            case 3:
                return hindsight.bestThousand;
            default:
                return hindsight.rare;
        }
    }

    public int leaving(int limit) {
        if (!within(limit, 1, THOUSAND)) {
            return NONE;
        }
        tally.countAll();
        return hindsight.fewestToLeave(limit);
    }

    public int house(int house, int what) {
        if (!within(house, 0, MAX_HOUSES - 1) || !within(what, 0, 1)) {
            return VOID;
        }
        tally.countAll();
        int bits = tally.houseBits(house);
        return what == 0 ? Integer.bitCount(bits) : tally.sumOf(bits);
    }

    public int joined(int what) {
        if (!within(what, 0, 1)) {
            return NONE;
        }
        tally.countAll();
        hindsight.withoutEachHouse();
        return what == 0 ? hindsight.least : hindsight.greatest;
    }

    public int span(int l, int what) {
        if (!within(l, 0, MAX_LEAN) || !within(what, 0, 1)) {
            return NONE;
        }
        hindsight.leanAll(l);
        return what == 0 ? hindsight.least : hindsight.greatest;
    }

    public boolean spread(int s, int l) {
        if (!within(s, 0, MAX_SPREAD) || !within(l, 1, MAX_LONG)) {
            return deny(CAN_NOT);
        }
        teller.spreading = s;
        teller.longer = l;
        return true;
    }

    public int world(int law, int seed) {
        if (law != NONE && !program.hasLaw(law)) {
            return refuse(NO_SUCH);
        }
        if (!within(seed, 0, MAX_SEED)) {
            return refuse(CAN_NOT);
        }
        return teller.drawWorld(law, seed);
    }

    public int worlds(int law, int seed, int n, int limit) {
        if (law != NONE && !program.hasLaw(law) || !within(seed, 0, MAX_SEED)) {
            return NONE;
        }
        if (!within(n, 1, MAX_WORLDS) || !within(limit, 0, THOUSAND)) {
            return NONE;
        }
        spare.take(lab);
        int found = 0;
        for (int i = 0; i < n; i++) {
            teller.drawWorld(law, seed + i);
            tally.countAll();
            if (tally.thousandWithout(0) <= limit) {
                found++;
            }
        }
        lab.take(spare);
        return found;
    }

    public int parts(int plan, int one, int other, int age) {
        if (!stage.hasPlan(plan) || !within(age, MIN_AGE, MAX_AGE)) {
            return NONE;
        }
        if (!program.hasLaw(one) || !program.hasLaw(other)) {
            return NONE;
        }
        return teller.planSign(one, plan, age) != teller.planSign(other, plan, age) ? 1 : 0;
    }

    public int next(int m, int age, int k) {
        if (!within(m, MIN_ROW, MAX_ROW) || !within(age, MIN_AGE, MAX_AGE) || stage.screens < MIN_ROW) {
            return NONE;
        }
        if (!within(k, ASK_COUPLES, m - 1)) {
            return NONE;
        }
        finder.find(m, age);
        if (k == ASK_COUPLES) {
            return finder.couples;
        }
        if (k == NONE) {
            return finder.bestSize;
        }
        return k < finder.bestSize ? finder.best[k] : NONE;
    }

    public int fresh(int times) {
        return within(times, 0, MAX_TRIALS - 1) ? meter.meanFresh(times) : NONE;
    }

    public int settled(int baby) {
        if (!lab.hasBaby(baby)) {
            return NONE;
        }
        meter.measure(baby);
        return meter.settledAt();
    }

    public int apart(int law, int baby) {
        if (!program.hasLaw(law) || baby != NONE && !lab.hasBaby(baby)) {
            return NONE;
        }
        tally.countAll();
        return offFor(law, baby);
    }

    public int nearest(int baby) {
        if (baby != NONE && !lab.hasBaby(baby)) {
            return NONE;
        }
        tally.countAll();
        if (baby == NONE && tally.counted == 0) {
            return NONE;
        }
        int best = NONE;
        int least = 0;
        for (int law = 0; law < program.laws; law++) {
            int off = offFor(law, baby);
            if (best == NONE || off < least) {
                best = law;
                least = off;
            }
        }
        return best;
    }

    public boolean book(int babies) {
        if (!within(babies, 0, MAX_BABIES)) {
            return deny(CAN_NOT);
        }
        journal.write(lab, babies);
        return true;
    }

    public int kept() {
        return journal.written ? journal.broken(lab) : NONE;
    }

    public boolean image(int k) {
        if (!within(k, 0, MAX_IMAGES - 1)) {
            return deny(NO_SUCH);
        }
        if (images[k] == null) {
            images[k] = new Lab();
        }
        images[k].take(lab);
        return true;
    }

    public boolean restore(int k) {
        if (!within(k, 0, MAX_IMAGES - 1) || images[k] == null) {
            return deny(NO_SUCH);
        }
        lab.take(images[k]);
        return true;
    }

    public int status(int reason) {
        return within(reason, 0, REASONS - 1) ? refusals[reason] : NONE;
    }

    public int count(int what) {
        switch (what) {
            case 0:
                return stage.screens;
            case 1:
                return stage.plans;
            case 2:
                return lab.babies;
            case 3:
                return program.laws;
            case 4:
                return program.clauses;
            case 5:
                return text.size;
            case 6:
                return lab.leftCount();
            default:
                return NONE;
        }
    }

    private int refuse(int reason) {
        refusals[reason]++;
        return NONE;
    }

    private boolean deny(int reason) {
        refusals[reason]++;
        return false;
    }

    private boolean hasBabyTrial(int baby, int trial) {
        return lab.hasBaby(baby) && stage.hasTrial(lab.plansOf[baby], trial);
    }

    /** OFF of a LAW for a BABY, or (baby NONE) for those that have been found COUNTED. */
    private int offFor(int law, int baby) {
        if (baby != NONE) {
            return offOf(law, baby);
        }
        int off = 0;
        for (int i = 0; i < tally.counted; i++) {
            off += offOf(law, tally.who[i]);
        }
        return off;
    }

    private int offOf(int law, int baby) {
        int plan = lab.plansOf[baby];
        teller.tellPlan(law, plan, lab.ages[baby]);
        int off = 0;
        for (int trial = 0; trial < stage.sizes[plan]; trial++) {
            int length = meter.bareLength(baby, trial);
            if (length != NONE) {
                off += Math.abs(length - teller.said[trial]);
            }
        }
        return off;
    }

    private static boolean within(int n, int least, int most) {
        return n >= least && n <= most;
    }

    private static int brought(int n, int least, int most) {
        return Math.max(least, Math.min(most, n));
    }

    /** The bytes fed so far, and their TOKENS, up to the end or to the first byte that begins none. */
    private static final class Text {
        private final int[] bytes = new int[MAX_TEXT];
        private final int[] codes = new int[MAX_TEXT + 1];
        private final int[] starts = new int[MAX_TEXT + 1];
        private final int[] ends = new int[MAX_TEXT + 1];
        private int tokens;
        int size;

        void append(int four) {
            for (int shift = 24; shift >= 0 && size < MAX_TEXT; shift -= 8) {
                bytes[size] = (four >> shift) & 255;
                size++;
            }
        }

        void split() {
            tokens = 0;
            int behind = 0;
            for (int place = 0; place < size; place = Math.max(place + 1, behind)) {
                int b = bytes[place];
                if (b == ' ' || b == '\n') {
                    continue;
                }
                behind = endOfToken(place);
                if (behind == place) {
                    keep(NO_TOKEN, place, place);
                    return;
                }
                keep(codeOf(place, behind), place, behind);
            }
            keep(TEXT_END, size, size);
        }

        int code(int k) {
            return k >= 0 && k < tokens ? codes[k] : TEXT_END;
        }

        int start(int k) {
            return k >= 0 && k < tokens ? starts[k] : size;
        }

        int wordSize(int k) {
            return k >= 0 && k < tokens ? ends[k] - starts[k] : 0;
        }

        boolean sameWords(int one, int other) {
            int letters = wordSize(one);
            if (letters != wordSize(other)) {
                return false;
            }
            for (int i = 0; i < letters; i++) {
                if (bytes[start(one) + i] != bytes[start(other) + i]) {
                    return false;
                }
            }
            return true;
        }

        private void keep(int code, int start, int behind) {
            if (tokens < codes.length) {
                codes[tokens] = code;
                starts[tokens] = start;
                ends[tokens] = behind;
                tokens++;
            }
        }

        /** The place behind the TOKEN that begins at a place: that place itself if none begins there. */
        private int endOfToken(int place) {
            int b = bytes[place];
            if (isSign(b)) {
                return place + 1;
            }
            int behind = place;
            if (isLetter(b)) {
                while (behind < size && isLetter(bytes[behind])) {
                    behind++;
                }
            } else {
                while (behind < size && isDigit(bytes[behind])) {
                    behind++;
                }
            }
            return behind;
        }

        private int codeOf(int start, int behind) {
            int b = bytes[start];
            if (isLetter(b)) {
                return wordCode(start, behind);
            }
            return isDigit(b) ? numberCode(start, behind) : FIRST_SIGN + b;
        }

        private int numberCode(int start, int behind) {
            int value = 0;
            for (int i = start; i < behind; i++) {
                value = value * 10 + bytes[i] - '0';
                if (value > MAX_NUMBER) {
                    return HUGE_NUMBER;
                }
            }
            return value;
        }

        private int wordCode(int start, int behind) {
            for (int word = 0; word < WORD_COUNT; word++) {
                if (isWord(word, start, behind)) {
                    return FIRST_WORD + word;
                }
            }
            return OTHER_WORD;
        }

        private boolean isWord(int word, int start, int behind) {
            if (behind - start > MAX_NAME) {
                return false;
            }
            for (int i = 0; i < MAX_NAME; i++) {
                int letter = start + i < behind ? bytes[start + i] : ' ';
                if (WORDS.charAt(word * MAX_NAME + i) != letter) {
                    return false;
                }
            }
            return true;
        }

        private static boolean isLetter(int b) {
            return b >= 'a' && b <= 'z';
        }

        private static boolean isDigit(int b) {
            return b >= '0' && b <= '9';
        }

        private static boolean isSign(int b) {
            return b == '+' || b == '-' || b == '*' || b == '/' || b == '<' || b == '='
                || b == '(' || b == ')' || b == ';';
        }
    }

    /** Finds the FAULT of the text, and drafts the LAWS and CLAUSES of one without. */
    private static final class Parser {
        private final Text text;
        private final int[] nameTokens = new int[MAX_LAWS];
        private int at;
        final Program draft = new Program();

        Parser(Text text) {
            this.text = text;
        }

        int findFault() {
            text.split();
            draft.empty();
            at = 0;
            if (text.code(at) == TEXT_END) {
                return text.start(at);
            }
            for (int lines = 0; lines < MAX_TEXT && text.code(at) != TEXT_END; lines++) {
                if (!parseLine()) {
                    return text.start(at);
                }
            }
            return NONE;
        }

        private boolean parseLine() {
            int word = text.code(at);
            if (word == LAW_WORD && draft.laws < MAX_LAWS) {
                at++;
                if (!parseNewName() || !parseToken(IS_WORD)) {
                    return false;
                }
                int start = draft.size;
                if (!parseExpression(0) || !parseToken(FIRST_SIGN + ';')) {
                    return false;
                }
                draft.addLaw(start);
                return true;
            }
            if (word == OUT_WORD && draft.clauses < MAX_CLAUSES) {
                at++;
                int start = draft.size;
                if (!parseToken(IF_WORD) || !parseExpression(0) || !parseToken(FIRST_SIGN + ';')) {
                    return false;
                }
                draft.addClause(start);
                return true;
            }
            return false;
        }

        private boolean parseToken(int code) {
            if (text.code(at) != code) {
                return false;
            }
            at++;
            return true;
        }

        private boolean parseNewName() {
            if (text.code(at) != OTHER_WORD || text.wordSize(at) > MAX_NAME) {
                return false;
            }
            for (int law = 0; law < draft.laws; law++) {
                if (text.sameWords(at, nameTokens[law])) {
                    return false;
                }
            }
            nameTokens[draft.laws] = at;
            at++;
            return true;
        }

        private boolean parseExpression(int depth) {
            if (!parseSum(depth)) {
                return false;
            }
            int sign = text.code(at);
            if (sign != FIRST_SIGN + '<' && sign != FIRST_SIGN + '=') {
                return true;
            }
            at++;
            if (!parseSum(depth)) {
                return false;
            }
            draft.emit(sign);
            return true;
        }

        private boolean parseSum(int depth) {
            if (!parseProduct(depth)) {
                return false;
            }
            for (int i = 0; i < MAX_TEXT; i++) {
                int sign = text.code(at);
                if (sign != FIRST_SIGN + '+' && sign != FIRST_SIGN + '-') {
                    return true;
                }
                at++;
                if (!parseProduct(depth)) {
                    return false;
                }
                draft.emit(sign);
            }
            return true;
        }

        private boolean parseProduct(int depth) {
            if (!parseFactor(depth)) {
                return false;
            }
            for (int i = 0; i < MAX_TEXT; i++) {
                int sign = text.code(at);
                if (sign != FIRST_SIGN + '*' && sign != FIRST_SIGN + '/') {
                    return true;
                }
                at++;
                if (!parseFactor(depth)) {
                    return false;
                }
                draft.emit(sign);
            }
            return true;
        }

        private boolean parseFactor(int depth) {
            int code = text.code(at);
            if (code < FIRST_WORD + NAMES) {
                draft.emit(code);
                at++;
                return true;
            }
            if (code != FIRST_SIGN + '(' || depth >= MAX_DEPTH) {
                return false;
            }
            at++;
            // Not by parseToken: calls would go nine deep.
            if (!parseExpression(depth + 1) || text.code(at) != FIRST_SIGN + ')') {
                return false;
            }
            at++;
            return true;
        }
    }

    /** LAWS and CLAUSES as rows of TOKENS in which each sign stands behind what it joins. */
    private static final class Program {
        private final int[] code = new int[MAX_TEXT];
        private final int[] lawStarts = new int[MAX_LAWS];
        private final int[] lawEnds = new int[MAX_LAWS];
        private final int[] clauseStarts = new int[MAX_CLAUSES];
        private final int[] clauseEnds = new int[MAX_CLAUSES];
        private final int[] stack = new int[STACK];
        int size;
        int laws;
        int clauses;

        void empty() {
            size = 0;
            laws = 0;
            clauses = 0;
        }

        void take(Program other) {
            size = other.size;
            laws = other.laws;
            clauses = other.clauses;
            System.arraycopy(other.code, 0, code, 0, other.size);
            System.arraycopy(other.lawStarts, 0, lawStarts, 0, MAX_LAWS);
            System.arraycopy(other.lawEnds, 0, lawEnds, 0, MAX_LAWS);
            System.arraycopy(other.clauseStarts, 0, clauseStarts, 0, MAX_CLAUSES);
            System.arraycopy(other.clauseEnds, 0, clauseEnds, 0, MAX_CLAUSES);
        }

        boolean hasLaw(int law) {
            return law >= 0 && law < laws;
        }

        void emit(int token) {
            if (size < MAX_TEXT) {
                code[size] = token;
                size++;
            }
        }

        void addLaw(int start) {
            if (laws < MAX_LAWS) {
                lawStarts[laws] = start;
                lawEnds[laws] = size;
                laws++;
            }
        }

        void addClause(int start) {
            if (clauses < MAX_CLAUSES) {
                clauseStarts[clauses] = start;
                clauseEnds[clauses] = size;
                clauses++;
            }
        }

        int workLaw(int law, int[] named) {
            return hasLaw(law) ? work(lawStarts[law], lawEnds[law], named) : 0;
        }

        /** The first CLAUSE that isn't 0, NONE without. */
        int firstClause(int[] named) {
            for (int clause = 0; clause < clauses; clause++) {
                if (work(clauseStarts[clause], clauseEnds[clause], named) != 0) {
                    return clause;
                }
            }
            return NONE;
        }

        private int work(int from, int behind, int[] named) {
            int top = 0;
            for (int i = from; i < behind; i++) {
                int token = code[i];
                if (token >= FIRST_SIGN) {
                    if (top >= 2) {
                        top--;
                        stack[top - 1] = joinBy(token - FIRST_SIGN, stack[top - 1], stack[top]);
                    }
                } else if (top < STACK) {
                    stack[top] = token < FIRST_WORD ? token : named[token - FIRST_WORD];
                    top++;
                }
            }
            return top > 0 ? stack[top - 1] : 0;
        }

        private static int joinBy(int sign, int one, int other) {
            long worked = one == other ? 1 : 0;
            if (sign == '+') {
                worked = (long) one + other;
            } else if (sign == '-') {
                worked = (long) one - other;
            } else if (sign == '*') {
                worked = (long) one * other;
            } else if (sign == '/') {
                worked = other == 0 ? 0 : one / other;
            } else if (sign == '<') {
                worked = one < other ? 1 : 0;
            }
            if (worked > MAX_WORKED) {
                return MAX_WORKED;
            }
            return worked < -MAX_WORKED ? -MAX_WORKED : (int) worked;
        }
    }

    /** KINDS, SCREENS and PLANS. */
    private static final class Stage {
        final int[] likes = new int[MAX_KINDS];
        final int[] firsts = new int[MAX_SCREENS];
        final int[] hands = new int[MAX_SCREENS];
        final int[] shown = new int[MAX_SCREENS];
        final int[] kinds = new int[MAX_SCREENS];
        final int[] rows = new int[MAX_PLANS * MAX_TRIALS];
        final int[] sizes = new int[MAX_PLANS];
        int screens;
        int plans;

        boolean hasScreen(int screen) {
            return screen >= 0 && screen < screens;
        }

        boolean hasPlan(int plan) {
            return plan >= 0 && plan < plans;
        }

        boolean hasTrial(int plan, int trial) {
            return hasPlan(plan) && trial >= 0 && trial < sizes[plan];
        }

        boolean isOdd(int screen) {
            return shown[screen] != firsts[screen] + hands[screen];
        }

        int screenOf(int plan, int trial) {
            return rows[plan * MAX_TRIALS + trial];
        }

        int addScreen(int first, int hand, int last, int kind) {
            firsts[screens] = first;
            hands[screens] = hand;
            shown[screens] = last;
            kinds[screens] = kind;
            screens++;
            return screens - 1;
        }

        int addPlan() {
            sizes[plans] = 0;
            plans++;
            return plans - 1;
        }

        int addTrial(int plan, int screen) {
            rows[plan * MAX_TRIALS + sizes[plan]] = screen;
            sizes[plan]++;
            return sizes[plan];
        }

        /** How many TRIALS ahead of one, in a row that begins at a place, have the same SCREEN. */
        int sameAhead(int[] row, int from, int trial) {
            int same = 0;
            for (int i = from; i < from + trial; i++) {
                if (row[i] == row[from + trial]) {
                    same++;
                }
            }
            return same;
        }
    }

    /** What an IMAGE keeps: BABIES with GAZES, CRYING and who is LEFT, the RULE, LEAN, READING and CAP. */
    private static final class Lab {
        final int[] plansOf = new int[MAX_BABIES];
        final int[] houses = new int[MAX_BABIES];
        final int[] ages = new int[MAX_BABIES];
        final int[] criedFrom = new int[MAX_BABIES];
        final boolean[] left = new boolean[MAX_BABIES];
        private final int[] gazes = new int[MAX_BABIES * MAX_TRIALS * MAX_GAZE];
        private final int[] gazeSizes = new int[MAX_BABIES * MAX_TRIALS];
        int babies;
        int w = 20;
        int most = LONGEST;
        int least;
        int leaning;
        int readBy;
        int cap = 200;

        void take(Lab other) {
            babies = other.babies;
            for (int baby = 0; baby < other.babies; baby++) {
                plansOf[baby] = other.plansOf[baby];
                houses[baby] = other.houses[baby];
                ages[baby] = other.ages[baby];
                criedFrom[baby] = other.criedFrom[baby];
                left[baby] = other.left[baby];
            }
            int trials = other.babies * MAX_TRIALS;
            System.arraycopy(other.gazes, 0, gazes, 0, trials * MAX_GAZE);
            System.arraycopy(other.gazeSizes, 0, gazeSizes, 0, trials);
            w = other.w;
            most = other.most;
            least = other.least;
            leaning = other.leaning;
            readBy = other.readBy;
            cap = other.cap;
        }

        boolean hasBaby(int baby) {
            return baby >= 0 && baby < babies;
        }

        boolean usesPlan(int plan) {
            for (int baby = 0; baby < babies; baby++) {
                if (plansOf[baby] == plan) {
                    return true;
                }
            }
            return false;
        }

        int leftCount() {
            int n = 0;
            for (int baby = 0; baby < babies; baby++) {
                if (left[baby]) {
                    n++;
                }
            }
            return n;
        }

        int addBaby(int plan, int house, int age) {
            plansOf[babies] = plan;
            houses[babies] = house;
            ages[babies] = age;
            criedFrom[babies] = NONE;
            left[babies] = false;
            // A restored IMAGE may have fewer BABIES than there were: their old GAZES still lie here.
            for (int trial = 0; trial < MAX_TRIALS; trial++) {
                gazeSizes[babies * MAX_TRIALS + trial] = 0;
            }
            babies++;
            return babies - 1;
        }

        int gazeSize(int baby, int trial) {
            return gazeSizes[baby * MAX_TRIALS + trial];
        }

        int gazeAt(int baby, int trial, int k) {
            return gazes[(baby * MAX_TRIALS + trial) * MAX_GAZE + k];
        }

        int addLength(int baby, int trial, int length) {
            int place = baby * MAX_TRIALS + trial;
            if (gazeSizes[place] < MAX_GAZE) {
                gazes[place * MAX_GAZE + gazeSizes[place]] = length;
                gazeSizes[place]++;
            }
            return gazeSizes[place];
        }

        void clearGazes() {
            for (int place = 0; place < gazeSizes.length; place++) {
                gazeSizes[place] = 0;
            }
        }

        boolean isCrying(int baby, int trial) {
            return criedFrom[baby] != NONE && trial >= criedFrom[baby];
        }
    }

    /** What LAWS SAY of rows of SCREENS, and the WORLDS drawn by it. */
    private static final class Teller {
        private final Stage stage;
        private final Lab lab;
        private final Program program;
        private final int[] named = new int[NAMES];
        private int x;
        final int[] said = new int[MAX_TRIALS];
        int spreading;
        int longer = 1;

        Teller(Stage stage, Lab lab, Program program) {
            this.stage = stage;
            this.lab = lab;
            this.program = program;
        }

        /** Puts what a LAW (or none) SAYS of each TRIAL of a PLAN into said. */
        void tellPlan(int law, int plan, int age) {
            int from = plan * MAX_TRIALS;
            int together = 0;
            for (int trial = 0; trial < stage.sizes[plan]; trial++) {
                said[trial] = law == NONE ? SAID_WITHOUT_LAW : tell(law, stage.rows, from, trial, age, together);
                together += said[trial];
            }
        }

        /** What a LAW SAYS of one TRIAL of a row, if it SAYS so much together of those ahead. */
        int tell(int law, int[] row, int from, int trial, int age, int together) {
            int screen = row[from + trial];
            int much = stage.shown[screen];
            named[ODD] = stage.isOdd(screen) ? 1 : 0;
            named[FRESH] = stage.sameAhead(row, from, trial);
            named[MUCH] = much;
            named[LAST] = trial > 0 && stage.shown[row[from + trial - 1]] == much ? 1 : 0;
            named[ORDER] = trial;
            named[TIRED] = together / 10;
            named[LIKED] = stage.likes[stage.kinds[screen]];
            named[AGE] = age;
            return brought(program.workLaw(law, named), 0, LONGEST);
        }

        /** The sign of the DIFFERENCE of what a LAW SAYS of a PLAN: without one 2. */
        int planSign(int law, int plan, int age) {
            tellPlan(law, plan, age);
            int oddSum = 0;
            int odd = 0;
            int sum = 0;
            int trials = stage.sizes[plan];
            for (int trial = 0; trial < trials; trial++) {
                sum += said[trial];
                if (stage.isOdd(stage.screenOf(plan, trial))) {
                    oddSum += said[trial];
                    odd++;
                }
            }
            return signOf(oddSum, odd, sum - oddSum, trials - odd);
        }

        static int signOf(int a, int m, int b, int n) {
            return m == 0 || n == 0 ? 2 : Integer.compare(a * n, b * m);
        }

        /** Draws a WORLD of a LAW (or none) in place of all GAZES: how many LOOKS. */
        int drawWorld(int law, int seed) {
            x = seed;
            int looks = 0;
            lab.clearGazes();
            for (int baby = 0; baby < lab.babies; baby++) {
                int plan = lab.plansOf[baby];
                tellPlan(law, plan, lab.ages[baby]);
                for (int trial = 0; trial < stage.sizes[plan] && !lab.isCrying(baby, trial); trial++) {
                    lab.addLength(baby, trial, drawLook(said[trial]));
                    looks++;
                }
            }
            return looks;
        }

        private int drawLook(int usual) {
            int look = usual + lot(2 * spreading + 1) - spreading;
            if (lot(16) == 0) {
                look *= longer;
            }
            return brought(look, 1, LONGEST);
        }

        private int lot(int n) {
            x = (int) ((x * 1103515245L + 12345L) & 2147483647L);
            return n > 0 ? x / 256 % n : 0;
        }
    }

    /** LENGTHS, READINGS, who is OUT, DIFFERENCES. */
    private static final class Meter {
        private final Stage stage;
        private final Lab lab;
        private final Program program;
        private final int[] named = new int[NAMES];
        private final int[] lengths = new int[MAX_TRIALS];
        private int trials;
        private int total;
        private int longest;
        private int present;

        Meter(Stage stage, Lab lab, Program program) {
            this.stage = stage;
            this.lab = lab;
            this.program = program;
        }

        /** The LENGTH of a TRIAL without LEAN, NONE if it is missing. */
        int bareLength(int baby, int trial) {
            if (lab.isCrying(baby, trial)) {
                return NONE;
            }
            int size = lab.gazeSize(baby, trial);
            int looks = 0;
            int away = 0;
            for (int k = 0; k < size; k++) {
                int length = lab.gazeAt(baby, trial, k);
                if (k % 2 == 0 && length >= lab.least) {
                    looks += length;
                    away = 0;
                } else {
                    away += length;
                    if (looks > 0 && away >= lab.w) {
                        break;
                    }
                }
            }
            return looks == 0 ? NONE : Math.min(looks, lab.most);
        }

        int leanedLength(int baby, int trial) {
            int length = bareLength(baby, trial);
            if (length == NONE || !stage.isOdd(stage.screenOf(lab.plansOf[baby], trial))) {
                return length;
            }
            return brought(length + lab.leaning, 0, LONGEST);
        }

        /** Takes all LENGTHS of one BABY; what asks for a measured BABY goes by these. */
        void measure(int baby) {
            trials = stage.sizes[lab.plansOf[baby]];
            total = 0;
            longest = 0;
            present = 0;
            for (int trial = 0; trial < trials; trial++) {
                int length = leanedLength(baby, trial);
                lengths[trial] = length;
                if (length != NONE) {
                    total += length;
                    longest = Math.max(longest, length);
                    present++;
                }
            }
        }

        /** Of the measured BABY, the first CLAUSE by which it is OUT, NONE without. */
        int clauseAgainst(int baby) {
            named[AGE] = lab.ages[baby];
            named[HOUSE] = lab.houses[baby];
            named[TOTAL] = total;
            named[LONGEST_OF] = longest;
            named[TRIALS_OF] = present;
            return program.firstClause(named);
        }

        /** Of the measured BABY, the READING of a TRIAL, NONE if it is missing. */
        int readingAt(int trial) {
            int length = lengths[trial];
            if (length == NONE) {
                return NONE;
            }
            switch (lab.readBy) {
                case 1:
                    return Math.min(length, lab.cap);
                case 2:
                    return 10 * digits(length);
                case 3:
                    return longest == 0 ? 0 : 100 * length / longest;
                default:
                    return length;
            }
        }

        private static int digits(int n) {
            int digits = 0;
            for (int rest = n; rest > 0; rest >>= 1) {
                digits++;
            }
            return digits;
        }

        /** The DIFFERENCE of the measured BABY, VOID without. */
        int differenceOf(int baby) {
            int a = 0;
            int m = 0;
            int b = 0;
            int n = 0;
            for (int trial = 0; trial < trials; trial++) {
                int value = readingAt(trial);
                if (value == NONE) {
                    continue;
                }
                if (stage.isOdd(stage.screenOf(lab.plansOf[baby], trial))) {
                    a += value;
                    m++;
                } else {
                    b += value;
                    n++;
                }
            }
            return m == 0 || n == 0 ? VOID : a * n - b * m;
        }

        /** Of the measured BABY, the TRIAL at which it is SETTLED, NONE without. */
        int settledAt() {
            if (trials < 3 || lengths[0] == NONE || lengths[1] == NONE) {
                return NONE;
            }
            for (int trial = 2; trial < trials; trial++) {
                boolean there = lengths[trial] != NONE && lengths[trial - 1] != NONE;
                if (there && 2 * (lengths[trial] + lengths[trial - 1]) < lengths[0] + lengths[1]) {
                    return trial;
                }
            }
            return NONE;
        }

        int meanFresh(int times) {
            int sum = 0;
            int n = 0;
            for (int baby = 0; baby < lab.babies; baby++) {
                measure(baby);
                if (clauseAgainst(baby) != NONE) {
                    continue;
                }
                int from = lab.plansOf[baby] * MAX_TRIALS;
                for (int trial = 0; trial < trials; trial++) {
                    if (lengths[trial] != NONE && stage.sameAhead(stage.rows, from, trial) == times) {
                        sum += lengths[trial];
                        n++;
                    }
                }
            }
            return n == 0 ? NONE : sum / n;
        }
    }

    /** Who is COUNTED, their SUMS and ODDS. */
    private static final class Odds {
        private static final int HALF = 256;
        private final Lab lab;
        private final Meter meter;
        private final int[] differences = new int[MAX_BABIES];
        private final int[] chosen = new int[MAX_BABIES];
        private final int[] low = new int[HALF];
        private final int[] high = new int[HALF];
        private final int[] before = new int[HALF];
        final int[] who = new int[MAX_BABIES];
        int counted;

        Odds(Lab lab, Meter meter) {
            this.lab = lab;
            this.meter = meter;
        }

        /** Finds who is COUNTED: what asks for bits, sums and ODDS goes by these. */
        void countAll() {
            counted = 0;
            for (int baby = 0; baby < lab.babies; baby++) {
                if (lab.left[baby]) {
                    continue;
                }
                meter.measure(baby);
                int difference = meter.differenceOf(baby);
                if (difference != VOID && meter.clauseAgainst(baby) == NONE) {
                    who[counted] = baby;
                    differences[counted] = difference;
                    counted++;
                }
            }
        }

        int allBits() {
            int bits = 0;
            for (int i = 0; i < counted; i++) {
                bits |= 1 << who[i];
            }
            return bits;
        }

        int houseBits(int house) {
            int bits = 0;
            for (int i = 0; i < counted; i++) {
                if (lab.houses[who[i]] == house) {
                    bits |= 1 << who[i];
                }
            }
            return bits;
        }

        int sumOf(int bits) {
            int sum = 0;
            for (int i = 0; i < counted; i++) {
                if ((bits >> who[i] & 1) != 0) {
                    sum += differences[i];
                }
            }
            return sum;
        }

        int waysWithout(int bits) {
            return waysOf(choose(bits));
        }

        int thousandWithout(int bits) {
            int n = choose(bits);
            return THOUSAND * waysOf(n) >> n;
        }

        private int choose(int bits) {
            int n = 0;
            for (int i = 0; i < counted; i++) {
                if ((bits >> who[i] & 1) == 0) {
                    chosen[n] = differences[i];
                    n++;
                }
            }
            return n;
        }

        /**
         * Turning some signs takes twice the turned ones from the SUM, so at least the SUM stays just if the
         * turned ones together are 0 or less: such sets are counted, by the sums of two halves in order.
         */
        private int waysOf(int n) {
            int middle = n / 2;
            int lows = gather(0, middle, low);
            int highs = gather(middle, n, high);
            int ways = 0;
            int fit = highs;
            for (int i = 0; i < lows; i++) {
                while (fit > 0 && low[i] + high[fit - 1] > 0) {
                    fit--;
                }
                ways += fit;
            }
            return ways;
        }

        /** Puts the sums of all sets of some chosen DIFFERENCES into a row, least first: how many there are. */
        private int gather(int from, int behind, int[] sums) {
            sums[0] = 0;
            int size = 1;
            for (int i = from; i < behind && size < HALF; i++) {
                addValue(chosen[i], sums, size);
                size *= 2;
            }
            return size;
        }

        private void addValue(int value, int[] sums, int size) {
            System.arraycopy(sums, 0, before, 0, size);
            int without = 0;
            int with = 0;
            for (int k = 0; k < 2 * size; k++) {
                if (with >= size || without < size && before[without] <= before[with] + value) {
                    sums[k] = before[without];
                    without++;
                } else {
                    sums[k] = before[with] + value;
                    with++;
                }
            }
        }
    }

    /** ODDS after knowing: other RULES, READINGS and LEANS, or without some BABIES. */
    private static final class Hindsight {
        private final Lab lab;
        private final Odds tally;
        int bestW;
        int bestMost;
        int bestReading;
        int bestThousand;
        int rare;
        int least;
        int greatest;
        private int bestShare;

        Hindsight(Lab lab, Odds tally) {
            this.lab = lab;
            this.tally = tally;
        }

        void lookBack() {
            int w = lab.w;
            int most = lab.most;
            int reading = lab.readBy;
            rare = 0;
            bestShare = NONE;
            for (int i = 0; i < AFTER_W.length; i++) {
                for (int j = 0; j < AFTER_MOST.length; j++) {
                    lab.w = AFTER_W[i];
                    lab.most = AFTER_MOST[j];
                    tryReadings();
                }
            }
            lab.w = w;
            lab.most = most;
            lab.readBy = reading;
        }

        private void tryReadings() {
            for (int reading = 0; reading < READINGS; reading++) {
                lab.readBy = reading;
                tally.countAll();
                int ways = tally.waysWithout(0);
                int thousand = THOUSAND * ways >> tally.counted;
                if (thousand < RARE) {
                    rare++;
                }
                // Of all that could be COUNTED, so that fractions are compared as whole numbers.
                int share = ways << (MAX_BABIES - tally.counted);
                if (bestShare == NONE || share < bestShare) {
                    bestShare = share;
                    bestW = lab.w;
                    bestMost = lab.most;
                    bestReading = reading;
                    bestThousand = thousand;
                }
            }
        }

        /** LEAVING, of BABIES that have been counted: bits, NONE without. */
        int fewestToLeave(int limit) {
            if (tally.thousandWithout(0) < limit) {
                return 0;
            }
            int bits = oneToLeave(limit);
            if (bits == NONE) {
                bits = twoToLeave(limit);
            }
            return bits == NONE ? threeToLeave(limit) : bits;
        }

        // The highest number goes slowest in each, so that the least bits come first.
        private int oneToLeave(int limit) {
            for (int i = 0; i < tally.counted; i++) {
                int bits = 1 << tally.who[i];
                if (tally.thousandWithout(bits) < limit) {
                    return bits;
                }
            }
            return NONE;
        }

        private int twoToLeave(int limit) {
            for (int j = 1; j < tally.counted; j++) {
                for (int i = 0; i < j; i++) {
                    int bits = 1 << tally.who[j] | 1 << tally.who[i];
                    if (tally.thousandWithout(bits) < limit) {
                        return bits;
                    }
                }
            }
            return NONE;
        }

        private int threeToLeave(int limit) {
            for (int k = 2; k < tally.counted; k++) {
                for (int j = 1; j < k; j++) {
                    for (int i = 0; i < j; i++) {
                        int bits = 1 << tally.who[k] | 1 << tally.who[j] | 1 << tally.who[i];
                        if (tally.thousandWithout(bits) < limit) {
                            return bits;
                        }
                    }
                }
            }
            return NONE;
        }

        /** JOINED, of BABIES that have been counted: least and greatest, NONE without. */
        void withoutEachHouse() {
            noticeNone();
            for (int house = 0; house < MAX_HOUSES; house++) {
                int bits = tally.houseBits(house);
                if (bits != 0) {
                    notice(tally.thousandWithout(bits));
                }
            }
        }

        void leanAll(int l) {
            int leaning = lab.leaning;
            noticeNone();
            for (int lean = -l; lean <= l; lean++) {
                lab.leaning = lean;
                tally.countAll();
                notice(tally.thousandWithout(0));
            }
            lab.leaning = leaning;
        }

        private void noticeNone() {
            least = NONE;
            greatest = NONE;
        }

        private void notice(int thousand) {
            least = least == NONE ? thousand : Math.min(least, thousand);
            greatest = Math.max(greatest, thousand);
        }
    }

    /** Seeks the NEXT row of SCREENS, shorter rows first, rows of one size in order of their numbers. */
    private static final class Finder {
        private final Stage stage;
        private final Program program;
        private final Teller teller;
        private final boolean[] used = new boolean[MAX_SCREENS];
        private final int[] row = new int[MAX_ROW];
        private final int[] odd = new int[MAX_ROW + 1];
        private final int[] sums = new int[(MAX_ROW + 1) * MAX_LAWS];
        private final int[] oddSums = new int[(MAX_ROW + 1) * MAX_LAWS];
        private int most;
        private int age;
        private int size;
        private int enough;
        final int[] best = new int[MAX_ROW];
        int bestSize;
        int couples;

        Finder(Stage stage, Program program, Teller teller) {
            this.stage = stage;
            this.program = program;
            this.teller = teller;
        }

        /** What was found no longer holds: SCREENS, LIKES or LAWS are others. */
        void forget() {
            most = 0;
        }

        void find(int m, int forAge) {
            if (m == most && forAge == age) {
                return;
            }
            most = m;
            age = forAge;
            couples = NONE;
            bestSize = 0;
            // Signs make three heaps at most: no more couples than this are ever parted.
            enough = program.laws * program.laws / 3;
            for (int n = MIN_ROW; n <= m && n <= stage.screens && couples < enough; n++) {
                size = n;
                extend(0);
            }
        }

        private void extend(int depth) {
            if (depth >= size || depth >= MAX_ROW) {
                return;
            }
            for (int screen = 0; screen < stage.screens && couples < enough; screen++) {
                if (used[screen]) {
                    continue;
                }
                used[screen] = true;
                place(depth, screen);
                if (depth + 1 == size) {
                    weigh();
                } else {
                    extend(depth + 1);
                }
                used[screen] = false;
            }
        }

        /** Puts a SCREEN into the row, and sums up what each LAW SAYS so far. */
        private void place(int depth, int screen) {
            row[depth] = screen;
            boolean isOdd = stage.isOdd(screen);
            odd[depth + 1] = odd[depth] + (isOdd ? 1 : 0);
            for (int law = 0; law < program.laws; law++) {
                int here = depth * MAX_LAWS + law;
                int there = here + MAX_LAWS;
                int said = teller.tell(law, row, 0, depth, age, sums[here]);
                sums[there] = sums[here] + said;
                oddSums[there] = oddSums[here] + (isOdd ? said : 0);
            }
        }

        private void weigh() {
            int parted = partedCouples();
            if (parted > couples) {
                couples = parted;
                bestSize = size;
                System.arraycopy(row, 0, best, 0, size);
            }
        }

        private int partedCouples() {
            int m = odd[size];
            int above = 0;
            int below = 0;
            for (int law = 0; law < program.laws; law++) {
                int place = size * MAX_LAWS + law;
                int sign = Teller.signOf(oddSums[place], m, sums[place] - oddSums[place], size - m);
                if (sign == 1) {
                    above++;
                } else if (sign == -1) {
                    below++;
                }
            }
            int others = program.laws - above - below;
            return above * below + above * others + below * others;
        }
    }

    /** What was written ahead, and what of it wasn't kept. */
    private static final class Book {
        boolean written;
        boolean lawsCame;
        private int w;
        private int most;
        private int least;
        private int readBy;
        private int cap;
        private int babies;

        void write(Lab lab, int planned) {
            written = true;
            lawsCame = false;
            w = lab.w;
            most = lab.most;
            least = lab.least;
            readBy = lab.readBy;
            cap = lab.cap;
            babies = planned;
        }

        int broken(Lab lab) {
            int bits = 0;
            if (lab.w != w || lab.most != most || lab.least != least) {
                bits |= 1;
            }
            if (lab.readBy != readBy || readBy == 1 && lab.cap != cap) {
                bits |= 2;
            }
            if (lawsCame) {
                bits |= 4;
            }
            if (lab.babies < babies) {
                bits |= 8;
            }
            if (lab.babies > babies) {
                bits |= 16;
            }
            if (lab.leftCount() > 0) {
                bits |= 32;
            }
            if (lab.leaning != 0) {
                bits |= 64;
            }
            return bits;
        }
    }
}
