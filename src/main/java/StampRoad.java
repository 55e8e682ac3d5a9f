import java.util.Arrays;

/** Under the table: a road of steps, the clerks on it, and the files of those who go along it. */
public final class StampRoad {
    public static final int NONE = -1;

    /** What a call answers when there is no such rest, price or number at all. */
    private static final int NEVER = -2;
    private static final int NO_CLERK = -1000000000;

    private static final int MOST_CLERKS = 10;
    private static final int MOST_STEPS = 8;
    private static final int MOST_FILES = 40;
    private static final int MOST_COIN = 10000;
    private static final int MOST_WAIT = 24;
    private static final int MOST_KEPT = 30000;
    private static final int LAST_MONTH = 239;
    private static final int MOST_TEXT = 160;
    private static final int MOST_GAIN_TEXT = 60;
    private static final int MOST_CLAUSES = 12;
    private static final int MOST_ROUNDS = 100;
    private static final int MOST_HANDS = 11;

    private static final String WAY_HEADS = "aw";
    private static final String LAW_HEADS = "gkb";

    private final Tape tape = new Tape();
    private final Land land = new Land();
    private final Reckoner reckoner = new Reckoner();
    private final Parser parser = new Parser(tape);
    private final Play play = new Play(land, reckoner);
    private final Play replay = new Play(land, reckoner);
    private final Rests rests = new Rests(land, reckoner);
    private final Hands hands = new Hands();
    private final Page page = new Page();
    private final Betweens betweens = new Betweens();

    public StampRoad() {
    }

    public int clerk(int pay, int fear) {
        if (isOutside(pay, 1000) || isOutside(fear, 100)) {
            return NONE;
        }
        return land.addClerk(pay, fear);
    }

    public int step(int clerks, int shape) {
        if (!land.isCrew(clerks) || isOutside(shape, Land.LOT) || land.files > 0) {
            return NONE;
        }
        return land.addStep(clerks, shape);
    }

    public boolean seed(int x) {
        if (isOutside(x, 65535)) {
            return false;
        }
        land.seed = x;
        play.x = x;
        return true;
    }

    public int file(int right, int coin, int haste) {
        if (isOutside(right, 1) || isOutside(coin, MOST_COIN) || isOutside(haste, 200) || land.steps == 0) {
            return NONE;
        }
        int j = land.addFile(right, coin, haste, play.now);
        play.admit(j);
        return j;
    }

    public int feed(int a, int b, int c, int d, int e) {
        if (tape.used + 20 > Tape.MOST) {
            return NONE;
        }
        tape.add(a);
        tape.add(b);
        tape.add(c);
        tape.add(d);
        tape.add(e);
        return tape.used;
    }

    public int way(int i, int n) {
        if (!land.isClerk(i) || !tape.hasText(n, MOST_TEXT)) {
            return NONE;
        }
        int answer = parser.readClauses(n, WAY_HEADS);
        tape.used = 0;
        if (answer > 0) {
            land.ways[i] = parser.swapFor(land.ways[i]);
        }
        return answer;
    }

    public int law(int n) {
        if (!tape.hasText(n, MOST_TEXT)) {
            return NONE;
        }
        int answer = parser.readClauses(n, LAW_HEADS);
        tape.used = 0;
        if (answer > 0) {
            land.law = parser.swapFor(land.law);
        }
        return answer;
    }

    public int gain(int n) {
        if (!tape.hasText(n, MOST_GAIN_TEXT)) {
            return NONE;
        }
        int answer = parser.readSum(n);
        tape.used = 0;
        if (answer > 0) {
            rests.replaceGain(parser.swapFor(rests.gain));
        }
        return answer;
    }

    public int month() {
        if (play.now >= LAST_MONTH) {
            return NONE;
        }
        return play.goBy();
    }

    public int fileIs(int j, int what) {
        if (!land.isFile(j)) {
            return NONE;
        }
        switch (what) {
            case 0: return play.step[j];
            case 1: return play.coin[j];
            case 2: return play.stood[j];
            case 3: return play.paid[j];
            case 4: return play.told[j];
            case 5: return play.doneIn[j];
            case 6: return land.came[j];
            default: return NONE;
        }
    }

    public int clerkIs(int i, int what) {
        if (!land.isClerk(i)) {
            return NO_CLERK;
        }
        switch (what) {
            case 0: return play.has[i];
            case 1: return play.took[i];
            case 2: return land.pay[i];
            case 3: return land.fear[i];
            default: return NO_CLERK;
        }
    }

    public int asks(int i, int j, int what) {
        if (!land.isClerk(i) || !play.isUnderWay(j) || isOutside(what, 1)) {
            return NONE;
        }
        if ((land.crew[play.step[j]] >> i & 1) == 0) {
            return NONE;
        }
        play.meet(i, j);
        return what == 0 ? play.price : play.delay;
    }

    public int told(int i, int j, int x, int what) {
        if (!land.isClerk(i) || !play.isUnderWay(j) || isOutside(x, MOST_COIN) || isOutside(what, 2)) {
            return NONE;
        }
        play.face(i, j, x);
        return reckoner.pick(land.law, LAW_HEADS.charAt(what), MOST_COIN);
    }

    public int rest(int set) {
        if (!land.isSet(set) || !rests.hasGain) {
            return NONE;
        }
        rests.learnWants();
        return rests.isResting(set) ? 1 : 0;
    }

    public int rests(int what) {
        if (!rests.hasGain) {
            return NONE;
        }
        rests.learnWants();
        return what == NONE ? rests.howMany() : rests.atPlace(what);
    }

    public int goesTo(int set) {
        if (!land.isSet(set) || !rests.hasGain) {
            return NONE;
        }
        rests.learnWants();
        return rests.settle(set);
    }

    public int turned(int from, int to) {
        if (!land.isSet(from) || !land.isSet(to) || !rests.hasGain) {
            return NONE;
        }
        rests.learnWants();
        return rests.isResting(to) ? rests.fewestToChange(from, to) : NONE;
    }

    public int value(int v) {
        return isOutside(v, MOST_COIN) ? NONE : hands.addValue(v);
    }

    public int one(int what) {
        if (isOutside(what, 1)) {
            return NONE;
        }
        int price = hands.bestPrice(0);
        return what == 0 ? price : hands.brings(price);
    }

    public int each(int n, int what) {
        if (n < 1 || n > MOST_HANDS || isOutside(what, 1)) {
            return NONE;
        }
        int all = hands.settle(n);
        return all == NEVER || what == 0 ? all : hands.brings(all);
    }

    public int made(int s, int what) {
        if (!land.isStep(s) || isOutside(what, 1)) {
            return NONE;
        }
        int months = play.bestWait(s);
        return what == 0 ? months : play.waitBrings(s, months);
    }

    public int entry(int s, int sum) {
        if (!land.isStep(s) || isOutside(sum, MOST_COIN)) {
            return NONE;
        }
        return page.addEntry(s, sum);
    }

    public int middle(int s, int liars, int what) {
        if (!land.isStep(s) || isOutside(liars, Page.MOST_ENTRIES) || isOutside(what, 1)) {
            return NONE;
        }
        int all = page.entriesOf(s);
        if (all == 0) {
            return NEVER;
        }
        int place = what == 0 ? all / 2 - liars : all / 2 + liars;
        return page.sumAt(s, place);
    }

    public int go(int clerks, int price, int a, int b) {
        if (!land.isCrew(clerks) || isOutside(price, MOST_KEPT) || a < 0 || a > b || b > price) {
            return NONE;
        }
        return betweens.addBetween(clerks, price - b, price - a);
    }

    public int span(int i, int what) {
        if (!land.isClerk(i) || isOutside(what, 1)) {
            return NONE;
        }
        if (betweens.turnedOver) {
            return NEVER;
        }
        return what == 0 ? betweens.low[i] : betweens.high[i];
    }

    public int odds(int n, int m, int k, int t, int what) {
        if (!Odds.isTry(n, m, k) || isOutside(t, n) || isOutside(what, 1)) {
            return NONE;
        }
        int above = Odds.above(n, m, k, t);
        int below = Odds.choose(n, m);
        int divisor = Odds.divisor(above, below);
        if (divisor == 0) {
            return NONE;
        }
        return (what == 0 ? above : below) / divisor;
    }

    public int those(int n, int m, int k, int thousandths, int what) {
        if (!Odds.isTry(n, m, k) || thousandths < 1 || thousandths > 1000 || isOutside(what, 1)) {
            return NONE;
        }
        int found = NEVER;
        for (int t = 0; t <= n; t++) {
            boolean isOne = Odds.above(n, m, k, t) * 1000 >= thousandths * Odds.choose(n, m);
            if (isOne && (found == NEVER || what == 1)) {
                found = t;
            }
        }
        return found;
    }

    public int bears() {
        return play.worstOff();
    }

    public int again(int what) {
        if (isOutside(what, 2)) {
            return NONE;
        }
        replay.begin();
        int sum = 0;
        for (int y = 0; y < play.now; y++) {
            replay.admitThoseOf(y);
            sum += replay.goBy();
        }
        replay.admitThoseOf(play.now);
        if (what == 1) {
            return sum;
        }
        return what == 0 ? replay.howManyDone() : replay.standsLike(play) ? 1 : 0;
    }

    public int check(int n) {
        if (n < 0 || n > tape.used / 12) {
            return NEVER;
        }
        int answer = play.firstWrong(tape, n);
        tape.used = 0;
        return answer;
    }

    public int count(int what) {
        if (what >= 20 && land.isClerk(what - 20)) {
            return land.wayOf(what - 20).clauses;
        }
        switch (what) {
            case 0: return play.now;
            case 1: return land.clerks;
            case 2: return land.steps;
            case 3: return land.files;
            case 4: return tape.used;
            case 5: return hands.values;
            case 6: return page.entries;
            case 7: return betweens.all;
            case 8: return play.x;
            case 9: return land.law.clauses;
            case 10: return play.tookBefore;
            default: return NONE;
        }
    }

    private static boolean isOutside(int number, int most) {
        return number < 0 || number > most;
    }

    /** The bytes that were fed and not yet used up. */
    private static final class Tape {
        static final int MOST = 200;

        private final byte[] bytes = new byte[MOST];
        int used;

        void add(int four) {
            for (int shift = 24; shift >= 0 && used < bytes.length; shift -= 8) {
                bytes[used] = (byte) (four >> shift);
                used++;
            }
        }

        boolean hasText(int n, int most) {
            return n >= 1 && n <= most && n <= used;
        }

        int byteAt(int place) {
            return place >= 0 && place < bytes.length ? bytes[place] & 255 : 0;
        }

        int numberAt(int place) {
            int number = 0;
            for (int k = 0; k < 4; k++) {
                number = number << 8 | byteAt(4 * place + k);
            }
            return number;
        }
    }

    /**
     * A TEXT as the reckoner takes it: each CLAUSE is the code of its E and then that of its C,
     * operands ahead of what joins them. GAIN is one such E with no CLAUSE around it.
     */
    private static final class Text {
        static final int NUMBER = '0';
        static final int LETTER = 'a';

        /** No byte of a TEXT gives more than one piece of code. */
        final int[] code = new int[MOST_TEXT];
        int length;
        final int[] head = new int[MOST_CLAUSES];
        final int[] sumFrom = new int[MOST_CLAUSES];
        final int[] conditionFrom = new int[MOST_CLAUSES];
        final int[] end = new int[MOST_CLAUSES];
        int clauses;

        void wipe() {
            length = 0;
            clauses = 0;
        }

        int put(int kind, int more) {
            if (length >= code.length) {
                return length;
            }
            code[length] = more << 8 | kind;
            length++;
            return length - 1;
        }

        /** What stands from here on is where the jump at a place goes. */
        void aim(int place) {
            if (place >= 0 && place < length) {
                code[place] = length << 8 | code[place] & 255;
            }
        }
    }

    /** Reads a TEXT from the tape, byte by byte, up to its end or its first FAULT. */
    private static final class Parser {
        private static final int MISPLACED = 1;
        private static final int SIXTH_DIGIT = 2;
        private static final int CLAUSE_TOO_MANY = 4;
        private static final int TOO_DEEP = 5;
        private static final int MOST_OPEN = 6;
        private static final int MOST_DIGITS = 5;
        private static final int END = -1;

        private final Tape tape;
        /** Apart from the TEXTS in use, so that a FAULT leaves the one before as it is. */
        private Text out = new Text();
        private int length;
        private int at;
        private int sign;
        private int open;
        private int fault;

        Parser(Tape tape) {
            this.tape = tape;
        }

        /** The TEXT that was read; the one that it replaces serves for the next reading. */
        Text swapFor(Text before) {
            Text read = out;
            out = before == null ? new Text() : before;
            return read;
        }

        /** How many CLAUSES there are, or the FAULT. */
        int readClauses(int n, String heads) {
            begin(n);
            boolean goesOn = true;
            for (int k = 0; goesOn && k <= MOST_CLAUSES; k++) {
                goesOn = readClause(k, heads) && sign != END && take(';');
            }
            return fault == 0 ? out.clauses : faultHere();
        }

        /** 1 for a TEXT of one E, or the FAULT. */
        int readSum(int n) {
            begin(n);
            boolean isWhole = readTerms() && (sign == END || fail(MISPLACED));
            return isWhole ? 1 : faultHere();
        }

        private void begin(int n) {
            length = n;
            open = 0;
            fault = 0;
            out.wipe();
            at = -1;
            advance();
        }

        private void advance() {
            at++;
            sign = at < length ? tape.byteAt(at) : END;
        }

        private int faultHere() {
            return -1000 * fault - at;
        }

        private boolean fail(int number) {
            fault = number;
            return false;
        }

        private boolean sees(String signs) {
            return sign != END && signs.indexOf((char) sign) >= 0;
        }

        private boolean seesDigit() {
            return sign >= '0' && sign <= '9';
        }

        private boolean take(char due) {
            if (sign != due) {
                return fail(MISPLACED);
            }
            advance();
            return true;
        }

        private boolean enter() {
            if (open >= MOST_OPEN) {
                return fail(TOO_DEEP);
            }
            open++;
            advance();
            return true;
        }

        private boolean readClause(int k, String heads) {
            if (!sees(heads)) {
                return fail(MISPLACED);
            }
            if (k >= MOST_CLAUSES) {
                return fail(CLAUSE_TOO_MANY);
            }
            out.head[k] = sign;
            out.sumFrom[k] = out.length;
            advance();
            if (!readTerms()) {
                return false;
            }
            out.conditionFrom[k] = out.length;
            if (sign != '(') {
                return fail(MISPLACED);
            }
            if (!enter() || !readParts() || !take(')')) {
                return false;
            }
            open--;
            out.end[k] = out.length;
            out.clauses = k + 1;
            return true;
        }

        private boolean readParts() {
            boolean stands = readPieces();
            for (int k = 0; stands && sign == '|' && k < length; k++) {
                advance();
                int jump = out.put('|', 0);
                stands = readPieces();
                out.aim(jump);
            }
            return stands;
        }

        private boolean readPieces() {
            boolean stands = readPiece();
            for (int k = 0; stands && sign == '&' && k < length; k++) {
                advance();
                int jump = out.put('&', 0);
                stands = readPiece();
                out.aim(jump);
            }
            return stands;
        }

        private boolean readPiece() {
            if (sign == '(') {
                boolean stands = enter() && readParts() && take(')');
                open--;
                return stands;
            }
            if (sign == '!') {
                boolean stands = enter() && readPiece();
                open--;
                out.put('!', 0);
                return stands;
            }
            if (!readTerms()) {
                return false;
            }
            if (!sees("<>=")) {
                return fail(MISPLACED);
            }
            int between = sign;
            advance();
            boolean stands = readTerms();
            out.put(between, 0);
            return stands;
        }

        private boolean readTerms() {
            boolean stands = readFactors();
            for (int k = 0; stands && sees("+-") && k < length; k++) {
                int between = sign;
                advance();
                stands = readFactors();
                out.put(between, 0);
            }
            return stands;
        }

        private boolean readFactors() {
            boolean stands = readFactor();
            for (int k = 0; stands && sees("*/%") && k < length; k++) {
                int between = sign;
                advance();
                stands = readFactor();
                out.put(between, 0);
            }
            return stands;
        }

        private boolean readFactor() {
            if (sign == '[') {
                boolean stands = enter() && readTerms() && take(']');
                open--;
                return stands;
            }
            if (seesDigit()) {
                return readNumber();
            }
            if (!sees(Reckoner.LETTERS)) {
                return fail(MISPLACED);
            }
            out.put(Text.LETTER, Reckoner.LETTERS.indexOf((char) sign));
            advance();
            return true;
        }

        private boolean readNumber() {
            int number = 0;
            for (int k = 0; k < MOST_DIGITS && seesDigit(); k++) {
                number = 10 * number + sign - '0';
                advance();
            }
            if (seesDigit()) {
                return fail(SIXTH_DIGIT);
            }
            out.put(Text.NUMBER, number);
            return true;
        }
    }

    /** Reckons TEXTS with the letters as they are set. */
    private static final class Reckoner {
        static final String LETTERS = "rchmsfpinoyx";
        static final int RIGHT = 0;
        static final int COIN = 1;
        static final int HASTE = 2;
        static final int STOOD = 3;
        static final int STEP = 4;
        static final int FEAR = 5;
        static final int PAY = 6;
        static final int CLERK = 7;
        static final int NUMBER = 8;
        static final int TOOK = 9;
        static final int MONTH = 10;
        static final int PRICE = 11;

        final int[] letters = new int[12];
        /** Six that are open in one another leave at most some twenty operands waiting. */
        private final int[] stack = new int[32];

        /** The E of the first CLAUSE with this letter whose C holds, from 0 to the most. */
        int pick(Text text, int head, int most) {
            if (text == null) {
                return 0;
            }
            for (int k = 0; k < text.clauses && k < MOST_CLAUSES; k++) {
                if (text.head[k] == head && reckon(text, text.conditionFrom[k], text.end[k]) != 0) {
                    int sum = reckon(text, text.sumFrom[k], text.conditionFrom[k]);
                    return Math.max(0, Math.min(most, sum));
                }
            }
            return 0;
        }

        /** What a stretch of code comes to (a C: 1 or 0); 0, too, when it is REFUSED. */
        int reckon(Text text, int from, int to) {
            if (text == null || from < 0 || to > text.length) {
                return 0;
            }
            int top = 0;
            for (int at = from; at < to; at++) {
                int kind = text.code[at] & 255;
                int more = text.code[at] >> 8;
                if (kind == Text.NUMBER || kind == Text.LETTER) {
                    if (top >= stack.length) {
                        return 0;
                    }
                    stack[top] = kind == Text.NUMBER ? more : letter(more);
                    top++;
                } else if (top < 1) {
                    return 0;
                } else if (kind == '!') {
                    stack[top - 1] = 1 - stack[top - 1];
                } else if (kind == '&' || kind == '|') {
                    boolean holds = stack[top - 1] != 0;
                    if (holds == (kind == '|')) {
                        // What is left out must not be asked: it might be REFUSED.
                        at = Math.max(at, more - 1);
                    } else {
                        top--;
                    }
                } else {
                    if (top < 2 || isRefused(kind, stack[top - 1])) {
                        return 0;
                    }
                    top--;
                    stack[top - 1] = join(kind, stack[top - 1], stack[top]);
                }
            }
            return top > 0 ? stack[top - 1] : 0;
        }

        private int letter(int place) {
            return place >= 0 && place < letters.length ? letters[place] : 0;
        }

        private static boolean isRefused(int kind, int right) {
            return right == 0 && (kind == '/' || kind == '%');
        }

        private static int join(int kind, int left, int right) {
            switch (kind) {
                case '+': return left + right;
                case '-': return left - right;
                case '*': return left * right;
                case '/': return right == 0 ? 0 : left / right;
                case '%': return right == 0 ? 0 : left % right;
                case '<': return left < right ? 1 : 0;
                case '>': return left > right ? 1 : 0;
                default: return left == right ? 1 : 0;
            }
        }
    }

    /** What was told: CLERKS, THE ROAD, FILES as they came, TEXTS, THE SEED. */
    private static final class Land {
        static final int ONE = 0;
        static final int LOT = 2;

        final int[] pay = new int[MOST_CLERKS];
        final int[] fear = new int[MOST_CLERKS];
        final Text[] ways = new Text[MOST_CLERKS];
        int clerks;
        final int[] crew = new int[MOST_STEPS];
        final int[] shape = new int[MOST_STEPS];
        int steps;
        final int[] right = new int[MOST_FILES];
        final int[] coin = new int[MOST_FILES];
        final int[] haste = new int[MOST_FILES];
        final int[] came = new int[MOST_FILES];
        int files;
        Text law = new Text();
        int seed = 1;
        private final Text noText = new Text();

        Land() {
            for (int i = 0; i < ways.length; i++) {
                ways[i] = new Text();
            }
        }

        boolean isClerk(int i) {
            return i >= 0 && i < clerks;
        }

        boolean isStep(int s) {
            return s >= 0 && s < steps;
        }

        boolean isFile(int j) {
            return j >= 0 && j < files;
        }

        boolean isSet(int set) {
            return set >= 0 && set < 1 << clerks;
        }

        boolean isCrew(int set) {
            return set != 0 && isSet(set);
        }

        Text wayOf(int i) {
            Text found = i >= 0 && i < ways.length ? ways[i] : noText;
            return found == null ? noText : found;
        }

        int addClerk(int itsPay, int itsFear) {
            if (clerks >= MOST_CLERKS) {
                return NONE;
            }
            pay[clerks] = itsPay;
            fear[clerks] = itsFear;
            clerks++;
            return clerks - 1;
        }

        int addStep(int itsCrew, int itsShape) {
            if (steps >= MOST_STEPS) {
                return NONE;
            }
            crew[steps] = itsCrew;
            shape[steps] = itsShape;
            steps++;
            return steps - 1;
        }

        int addFile(int itsRight, int itsCoin, int itsHaste, int month) {
            if (files >= MOST_FILES) {
                return NONE;
            }
            right[files] = itsRight;
            coin[files] = itsCoin;
            haste[files] = itsHaste;
            came[files] = month;
            files++;
            return files - 1;
        }
    }

    /** How it goes in the land MONTH by MONTH: once as it went, once PLAYED AGAIN. */
    private static final class Play {
        private final Land land;
        private final Reckoner reckoner;
        final int[] step = new int[MOST_FILES];
        final int[] coin = new int[MOST_FILES];
        final int[] stood = new int[MOST_FILES];
        final int[] paid = new int[MOST_FILES];
        final int[] told = new int[MOST_FILES];
        final int[] doneIn = new int[MOST_FILES];
        private int present;
        final int[] has = new int[MOST_CLERKS];
        final int[] took = new int[MOST_CLERKS];
        /** How many FILES stand at each STEP, and behind the last one. */
        private final int[] standing = new int[MOST_STEPS + 1];
        int now;
        int x = 1;
        int tookBefore;
        private int takers;
        int price;
        int delay;

        Play(Land land, Reckoner reckoner) {
            this.land = land;
            this.reckoner = reckoner;
        }

        void begin() {
            present = 0;
            now = 0;
            x = land.seed;
            tookBefore = 0;
            Arrays.fill(has, 0);
            Arrays.fill(took, 0);
            Arrays.fill(standing, 0);
        }

        void admit(int j) {
            if (j < 0 || j >= MOST_FILES) {
                return;
            }
            step[j] = 0;
            coin[j] = land.coin[j];
            stood[j] = 0;
            paid[j] = 0;
            told[j] = 0;
            doneIn[j] = NONE;
            standing[0]++;
            present = j + 1;
        }

        void admitThoseOf(int month) {
            for (int j = present; j < land.files && land.came[j] == month; j++) {
                admit(j);
            }
        }

        boolean isUnderWay(int j) {
            return j >= 0 && j < present && step[j] < land.steps;
        }

        /** A MONTH GOES BY: how much was PAID in it. */
        int goBy() {
            takers = 0;
            int sum = 0;
            for (int j = 0; j < present; j++) {
                if (isUnderWay(j)) {
                    sum += serve(server(j), j);
                }
            }
            tookBefore = Integer.bitCount(takers);
            now++;
            return sum;
        }

        private int server(int j) {
            int crew = land.crew[step[j]];
            int shape = land.shape[step[j]];
            if (shape == Land.ONE) {
                return atPlace(crew, 0);
            }
            if (shape == Land.LOT) {
                int size = Integer.bitCount(crew);
                x = (25173 * x + 13849) % 65536;
                return size > 0 ? atPlace(crew, x % size) : 0;
            }
            return cheapest(crew, j);
        }

        private static int atPlace(int crew, int place) {
            int behind = place;
            for (int i = 0; i < MOST_CLERKS; i++) {
                if ((crew >> i & 1) == 1) {
                    if (behind == 0) {
                        return i;
                    }
                    behind--;
                }
            }
            return 0;
        }

        private int cheapest(int crew, int j) {
            int best = NONE;
            int bestPrice = 0;
            int bestWait = 0;
            for (int i = 0; i < MOST_CLERKS; i++) {
                if ((crew >> i & 1) == 1) {
                    meet(i, j);
                    if (best == NONE || price < bestPrice || price == bestPrice && delay < bestWait) {
                        best = i;
                        bestPrice = price;
                        bestWait = delay;
                    }
                }
            }
            return Math.max(best, 0);
        }

        /** Finds the price that the CLERK asks of the FILE, and how long it waits with him. */
        void meet(int i, int j) {
            face(i, j, 0);
            Text way = land.wayOf(i);
            price = reckoner.pick(way, 'a', MOST_COIN);
            delay = reckoner.pick(way, 'w', MOST_WAIT);
        }

        /** Sets the letters for a CLERK, a FILE that is under way, and a price. */
        void face(int i, int j, int given) {
            int[] letters = reckoner.letters;
            int s = step[j];
            letters[Reckoner.RIGHT] = land.right[j];
            letters[Reckoner.COIN] = coin[j];
            letters[Reckoner.HASTE] = land.haste[j];
            letters[Reckoner.STOOD] = stood[j];
            letters[Reckoner.STEP] = s;
            letters[Reckoner.FEAR] = land.fear[i];
            letters[Reckoner.PAY] = land.pay[i];
            letters[Reckoner.CLERK] = i;
            letters[Reckoner.NUMBER] = standing[s];
            letters[Reckoner.TOOK] = tookBefore;
            letters[Reckoner.MONTH] = now;
            letters[Reckoner.PRICE] = given;
        }

        /** What the FILE pays to the CLERK who serves it in this MONTH. */
        private int serve(int i, int j) {
            meet(i, j);
            if (pays(j)) {
                int given = price;
                give(i, j, given);
                goOn(j);
                return given;
            }
            boolean isLetBy = land.right[j] == 1 || price == 0;
            if (isLetBy && stood[j] >= delay) {
                goOn(j);
            } else {
                stood[j]++;
            }
            return 0;
        }

        private boolean pays(int j) {
            if (price == 0 || price > coin[j]) {
                return false;
            }
            int toWait = delay - stood[j];
            return land.right[j] == 0 || toWait > 0 && price <= land.haste[j] * toWait;
        }

        private void give(int i, int j, int given) {
            face(i, j, given);
            int giverPays = reckoner.pick(land.law, 'g', MOST_COIN);
            int takerPays = reckoner.pick(land.law, 'k', MOST_COIN);
            int back = reckoner.pick(land.law, 'b', MOST_COIN);
            coin[j] -= given;
            paid[j] += given;
            has[i] += given;
            took[i]++;
            takers |= 1 << i;
            if (back > giverPays) {
                told[j]++;
                coin[j] += back - giverPays;
                has[i] -= back + takerPays;
            }
        }

        private void goOn(int j) {
            standing[step[j]]--;
            step[j]++;
            standing[step[j]]++;
            stood[j] = 0;
            if (step[j] >= land.steps) {
                doneIn[j] = now;
            }
        }

        int bestWait(int s) {
            int best = 0;
            int most = 0;
            for (int months = 1; months <= MOST_WAIT; months++) {
                int sum = waitBrings(s, months);
                if (sum > most) {
                    best = months;
                    most = sum;
                }
            }
            return best;
        }

        int waitBrings(int s, int months) {
            int sum = 0;
            for (int j = 0; j < present; j++) {
                int worth = land.haste[j] * months;
                if (step[j] == s && land.right[j] == 1 && coin[j] >= worth) {
                    sum += worth;
                }
            }
            return sum;
        }

        /** The FILE that PAID the greatest part of what it came with. */
        int worstOff() {
            int worst = NONE;
            for (int j = 0; j < present; j++) {
                if (paid[j] > 0 && land.coin[j] > 0 && (worst == NONE || isWorse(j, worst))) {
                    worst = j;
                }
            }
            return worst;
        }

        private boolean isWorse(int j, int other) {
            return (long) paid[j] * land.coin[other] > (long) paid[other] * land.coin[j];
        }

        int howManyDone() {
            int done = 0;
            for (int j = 0; j < present; j++) {
                if (!isUnderWay(j)) {
                    done++;
                }
            }
            return done;
        }

        boolean standsLike(Play other) {
            for (int j = 0; j < present; j++) {
                if (step[j] != other.step[j]) {
                    return false;
                }
            }
            return true;
        }

        /** The place of the first number of the tape that is not so, NONE if all are. */
        int firstWrong(Tape tape, int threes) {
            for (int j = 0; j < threes; j++) {
                if (j >= present || tape.numberAt(3 * j) != j) {
                    return 3 * j;
                }
                if (tape.numberAt(3 * j + 1) != step[j]) {
                    return 3 * j + 1;
                }
                if (tape.numberAt(3 * j + 2) != coin[j]) {
                    return 3 * j + 2;
                }
            }
            return threes < present ? 3 * threes : NONE;
        }
    }

    /** In what taking comes to rest. */
    private static final class Rests {
        private final Land land;
        private final Reckoner reckoner;
        Text gain = new Text();
        boolean hasGain;
        /** GAIN of each CLERK by how many others take: nothing else of a set matters to it. */
        private final int[][] gains = new int[MOST_CLERKS][MOST_CLERKS];
        /** Where one round leads from each set, NONE if that was not asked yet: many ways lead over the same sets. */
        private final int[] after = new int[1 << MOST_CLERKS];
        /** For how many CLERKS all this was learnt; their PAY and FEAR never change. */
        private int learntFor = NONE;

        Rests(Land land, Reckoner reckoner) {
            this.land = land;
            this.reckoner = reckoner;
        }

        void replaceGain(Text text) {
            gain = text;
            hasGain = true;
            learntFor = NONE;
        }

        void learnWants() {
            if (learntFor == land.clerks) {
                return;
            }
            learntFor = land.clerks;
            Arrays.fill(after, NONE);
            int[] letters = reckoner.letters;
            Arrays.fill(letters, 0);
            letters[Reckoner.NUMBER] = land.clerks;
            for (int i = 0; i < land.clerks; i++) {
                letters[Reckoner.CLERK] = i;
                letters[Reckoner.FEAR] = land.fear[i];
                letters[Reckoner.PAY] = land.pay[i];
                for (int others = 0; others < land.clerks; others++) {
                    letters[Reckoner.TOOK] = others;
                    gains[i][others] = reckoner.reckon(gain, 0, gain.length);
                }
            }
        }

        private boolean wantsOtherwise(int i, int set) {
            boolean takes = (set >> i & 1) == 1;
            int others = Integer.bitCount(set) - (takes ? 1 : 0);
            int itsGain = gains[i][others];
            return takes ? itsGain < 0 : itsGain > 0;
        }

        boolean isResting(int set) {
            for (int i = 0; i < land.clerks; i++) {
                if (wantsOtherwise(i, set)) {
                    return false;
                }
            }
            return true;
        }

        int howMany() {
            int found = 0;
            for (int set = 0; set < 1 << land.clerks; set++) {
                if (isResting(set)) {
                    found++;
                }
            }
            return found;
        }

        int atPlace(int place) {
            int behind = place;
            for (int set = 0; set < 1 << land.clerks; set++) {
                if (isResting(set)) {
                    if (behind == 0) {
                        return set;
                    }
                    behind--;
                }
            }
            return NONE;
        }

        int settle(int from) {
            int set = from;
            for (int round = 0; round < MOST_ROUNDS; round++) {
                int next = behindRound(set);
                // Each had one turn: the set is the same only if nobody changed.
                if (next == set) {
                    return set;
                }
                set = next;
            }
            return NEVER;
        }

        private int behindRound(int from) {
            if (after[from] == NONE) {
                int set = from;
                for (int i = 0; i < land.clerks; i++) {
                    if (wantsOtherwise(i, set)) {
                        set ^= 1 << i;
                    }
                }
                after[from] = set;
            }
            return after[from];
        }

        /** To change just those who differ always does, so something is found. */
        int fewestToChange(int from, int to) {
            int best = from ^ to;
            int fewest = Integer.bitCount(best);
            for (int change = 0; change < 1 << land.clerks; change++) {
                int size = Integer.bitCount(change);
                boolean isBetter = size < fewest || size == fewest && change < best;
                if (isBetter && settle(from ^ change) == to) {
                    best = change;
                    fewest = size;
                }
            }
            return best;
        }
    }

    /** Prices of many hands. */
    private static final class Hands {
        static final int MOST_VALUES = 20;

        /** The greatest first, so that the place tells how many would still pay. */
        private final int[] worth = new int[MOST_VALUES];
        int values;
        private final int[] price = new int[MOST_HANDS];

        int addValue(int v) {
            if (values >= MOST_VALUES) {
                return NONE;
            }
            int place = values;
            for (; place > 0 && worth[place - 1] < v; place--) {
                worth[place] = worth[place - 1];
            }
            worth[place] = v;
            values++;
            return values;
        }

        int brings(int all) {
            int sum = 0;
            for (int k = 0; k < values && worth[k] >= all; k++) {
                sum += all;
            }
            return sum;
        }

        /** The least price that brings most to a hand, if others ask so much beside it. */
        int bestPrice(int others) {
            int best = 0;
            int most = 0;
            // Between two VALUES a higher price loses nobody: only a VALUE can be best.
            for (int k = 0; k < values && worth[k] > others; k++) {
                int itsPrice = worth[k] - others;
                int sum = itsPrice * (k + 1);
                if (sum >= most) {
                    best = itsPrice;
                    most = sum;
                }
            }
            return best;
        }

        /** All prices together when no hand changes its own any more. */
        int settle(int hands) {
            Arrays.fill(price, 0);
            int all = 0;
            for (int round = 0; round < MOST_ROUNDS; round++) {
                boolean changes = false;
                for (int h = 0; h < hands && h < price.length; h++) {
                    int others = all - price[h];
                    int itsPrice = bestPrice(others);
                    if (itsPrice != price[h]) {
                        price[h] = itsPrice;
                        all = others + itsPrice;
                        changes = true;
                    }
                }
                if (!changes) {
                    return all;
                }
            }
            return NEVER;
        }
    }

    /** What people say that they paid. */
    private static final class Page {
        static final int MOST_ENTRIES = 60;

        /** By sums, the least first. */
        private final int[] sums = new int[MOST_ENTRIES];
        private final int[] steps = new int[MOST_ENTRIES];
        int entries;

        int addEntry(int s, int sum) {
            if (entries >= MOST_ENTRIES) {
                return NONE;
            }
            int place = entries;
            for (; place > 0 && sums[place - 1] > sum; place--) {
                sums[place] = sums[place - 1];
                steps[place] = steps[place - 1];
            }
            sums[place] = sum;
            steps[place] = s;
            entries++;
            return entries;
        }

        int entriesOf(int s) {
            int found = 0;
            for (int k = 0; k < entries; k++) {
                if (steps[k] == s) {
                    found++;
                }
            }
            return found;
        }

        /** Each liar moves the middle by one place; behind the ends any sum may be true. */
        int sumAt(int s, int place) {
            if (place < 0) {
                return 0;
            }
            int behind = place;
            for (int k = 0; k < entries; k++) {
                if (steps[k] == s) {
                    if (behind == 0) {
                        return sums[k];
                    }
                    behind--;
                }
            }
            return MOST_COIN;
        }
    }

    /** GO-BETWEENS, and what their prices tell of each CLERK's. */
    private static final class Betweens {
        static final int MOST = 8;
        /** Each sweep but the last makes a SPAN narrower by one at least. */
        private static final int MOST_SWEEPS = 1000000;

        private final int[] crews = new int[MOST];
        private final int[] leasts = new int[MOST];
        private final int[] mosts = new int[MOST];
        int all;
        final int[] low = new int[MOST_CLERKS];
        final int[] high = new int[MOST_CLERKS];
        boolean turnedOver;

        Betweens() {
            Arrays.fill(high, MOST_COIN);
        }

        int addBetween(int crew, int least, int most) {
            if (all >= MOST) {
                return NONE;
            }
            crews[all] = crew;
            leasts[all] = least;
            mosts[all] = most;
            all++;
            // SPANS end the same in whatever order they are made narrower, so they go on from here.
            boolean changes = true;
            for (int sweep = 0; changes && !turnedOver && sweep < MOST_SWEEPS; sweep++) {
                changes = false;
                for (int k = 0; k < all; k++) {
                    changes |= narrow(k);
                }
            }
            return all - 1;
        }

        private boolean narrow(int k) {
            int lows = 0;
            int highs = 0;
            for (int i = 0; i < MOST_CLERKS; i++) {
                if ((crews[k] >> i & 1) == 1) {
                    lows += low[i];
                    highs += high[i];
                }
            }
            boolean changes = false;
            for (int i = 0; i < MOST_CLERKS; i++) {
                if ((crews[k] >> i & 1) == 1) {
                    int least = Math.max(low[i], leasts[k] - (highs - high[i]));
                    int most = Math.min(high[i], mosts[k] - (lows - low[i]));
                    changes |= least != low[i] || most != high[i];
                    lows += least - low[i];
                    highs += most - high[i];
                    low[i] = least;
                    high[i] = most;
                    turnedOver |= least > most;
                }
            }
            return changes;
        }
    }

    /** Some of the CLERKS are tried by lot. */
    private static final class Odds {
        static boolean isTry(int n, int m, int k) {
            return n >= 1 && n <= MOST_CLERKS && m >= 0 && m <= n && k >= 0 && k <= m;
        }

        /** In how many ways of choosing m just k of them ask. */
        static int above(int n, int m, int k, int t) {
            return choose(t, k) * choose(n - t, m - k);
        }

        static int choose(int n, int k) {
            if (k < 0 || k > n) {
                return 0;
            }
            int ways = 1;
            for (int i = 1; i <= k; i++) {
                ways = ways * (n - k + i) / i;
            }
            return ways;
        }

        static int divisor(int a, int b) {
            int high = a;
            int low = b;
            for (int k = 0; k < 100 && low != 0; k++) {
                int left = high % low;
                high = low;
                low = left;
            }
            return high;
        }
    }
}
