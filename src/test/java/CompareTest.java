import java.util.Random;

/** Runs of calls by lot (always the same ones), each answer held against NaiveRoad's. */
public final class CompareTest {
    private static final int RUNS = 3000;
    private static int wrong = 0;
    private static long calls = 0;

    private final Random lot;
    private final StampRoad road = new StampRoad();
    private final NaiveRoad naive = new NaiveRoad();
    private final StringBuilder story = new StringBuilder();
    private final int run;
    private int used = 0;

    private CompareTest(int run) {
        this.run = run;
        lot = new Random(run * 7919L + 17);
    }

    public static void main(String[] args) {
        int runs = args.length > 0 ? Integer.parseInt(args[0]) : RUNS;
        int first = args.length > 1 ? Integer.parseInt(args[1]) : 0;
        for (int run = first; run < first + runs && wrong < 5; run++) {
            new CompareTest(run).play();
        }
        System.out.println(calls + " calls held against the naive road, " + wrong + " wrong");
        if (wrong != 0) {
            System.exit(1);
        }
    }

    private void play() {
        int wrongBefore = wrong;
        int clerks = lot.nextInt(8) == 0 ? 0 : 1 + lot.nextInt(lot.nextInt(4) == 0 ? 10 : 4);
        for (int i = 0; i < clerks; i++) {
            call(0);
        }
        int steps = lot.nextInt(7);
        for (int s = 0; s < steps; s++) {
            call(1);
        }
        for (int i = 0; i < clerks && lot.nextInt(6) > 0; i++) {
            text(i);
        }
        text(20);
        if (lot.nextInt(20) == 0) {
            for (int y = 0; y < 241; y++) {
                call(lot.nextInt(15) == 0 ? 3 : 8);
            }
        }
        while (used < 500 && wrong == wrongBefore) {
            int what = lot.nextInt(60);
            if (what < 31) {
                call(what);
            } else if (what < 38) {
                text(what < 34 ? lot.nextInt(11) : what < 36 ? 20 : 21);
            } else if (what < 46) {
                call(8);
            } else if (what < 50) {
                call(3);
            } else if (what < 52) {
                tellAll();
            } else {
                call(9 + lot.nextInt(4));
            }
        }
        if (wrong != wrongBefore) {
            System.out.println("run " + run + ":\n" + story);
        }
    }

    private void due(String call, int got, int want) {
        used++;
        calls++;
        story.append("  ").append(call).append(" = ").append(got).append('\n');
        if (got != want) {
            wrong++;
            System.out.println("run " + run + ": " + call + " answered " + got + ", due is " + want);
        }
    }

    /** From 0 to most; now and then an edge or something wild. */
    private int upTo(int most) {
        int kind = lot.nextInt(40);
        switch (kind) {
            case 0: return -1;
            case 1: return most + 1;
            case 2: return most;
            case 3: return 0;
            case 4: return lot.nextInt(6) == 0 ? lot.nextInt() : 0;
            default: return lot.nextInt(most + 1);
        }
    }

    private int small(int most) {
        return lot.nextInt(3) == 0 ? upTo(most) : lot.nextInt(Math.min(most, 120) + 1);
    }

    private int aSet() {
        return upTo(Math.max(1, (1 << naive.clerks.size()) - 1));
    }

    private int aClerk() {
        return upTo(Math.max(0, naive.clerks.size() - 1));
    }

    private int aStep() {
        return upTo(Math.max(0, naive.steps.size() - 1));
    }

    private int aFile() {
        return upTo(Math.max(0, naive.files.size() - 1));
    }

    private void call(int which) {
        int a;
        int b;
        int c;
        int d;
        int e;
        switch (which) {
            case 0: a = small(1000); b = small(100); due("clerk(" + a + ", " + b + ")", road.clerk(a, b), naive.clerk(a, b)); break;
            case 1: a = aSet(); b = upTo(2); due("step(" + a + ", " + b + ")", road.step(a, b), naive.step(a, b)); break;
            case 2: a = upTo(65535); due("seed(" + a + ")", road.seed(a) ? 1 : 0, naive.seed(a)); break;
            case 3: a = upTo(1); b = small(10000); c = small(200); due("file(" + a + ", " + b + ", " + c + ")", road.file(a, b, c), naive.file(a, b, c)); break;
            case 4: feedFive(lot.nextInt(), lot.nextInt(), lot.nextInt(), 0, -1); break;
            case 5: a = aClerk(); b = upTo(160); due("way(" + a + ", " + b + ")", road.way(a, b), naive.way(a, b)); break;
            case 6: a = upTo(160); due("law(" + a + ")", road.law(a), naive.law(a)); break;
            case 7: a = upTo(60); due("gain(" + a + ")", road.gain(a), naive.gain(a)); break;
            case 8: due("month()", road.month(), naive.month()); break;
            case 9: a = aFile(); b = upTo(6); due("fileIs(" + a + ", " + b + ")", road.fileIs(a, b), naive.fileIs(a, b)); break;
            case 10: a = aClerk(); b = upTo(3); due("clerkIs(" + a + ", " + b + ")", road.clerkIs(a, b), naive.clerkIs(a, b)); break;
            case 11: a = aClerk(); b = aFile(); c = upTo(1); due("asks(" + a + ", " + b + ", " + c + ")", road.asks(a, b, c), naive.asks(a, b, c)); break;
            case 12: a = aClerk(); b = aFile(); c = small(10000); d = upTo(2); due("told(" + a + ", " + b + ", " + c + ", " + d + ")", road.told(a, b, c, d), naive.told(a, b, c, d)); break;
            case 13: a = aSet(); due("rest(" + a + ")", road.rest(a), naive.rest(a)); break;
            case 14: a = upTo(6); due("rests(" + a + ")", road.rests(a), naive.rests(a)); break;
            case 15: a = aSet(); due("goesTo(" + a + ")", road.goesTo(a), naive.goesTo(a)); break;
            case 16: turnedCall(); break;
            case 17: a = small(10000); due("value(" + a + ")", road.value(a), naive.value(a)); break;
            case 18: a = upTo(1); due("one(" + a + ")", road.one(a), naive.one(a)); break;
            case 19: a = upTo(lot.nextInt(4) == 0 ? 11 : 4); b = upTo(1); if (mayBeSlow()) { due("each(" + a + ", " + b + ")", road.each(a, b), naive.each(a, b)); } break;
            case 20: a = aStep(); b = upTo(1); due("made(" + a + ", " + b + ")", road.made(a, b), naive.made(a, b)); break;
            case 21: a = aStep(); b = small(10000); due("entry(" + a + ", " + b + ")", road.entry(a, b), naive.entry(a, b)); break;
            case 22: a = aStep(); b = lot.nextBoolean() ? upTo(60) : lot.nextInt(5); c = upTo(1); due("middle(" + a + ", " + b + ", " + c + ")", road.middle(a, b, c), naive.middle(a, b, c)); break;
            case 23: a = aSet(); b = small(30000); c = small(Math.max(0, Math.min(b, 30000))); d = c >= 0 && c < b && b <= 30000 ? c + lot.nextInt(b - c + 1) : upTo(30000); due("go(" + a + ", " + b + ", " + c + ", " + d + ")", road.go(a, b, c, d), naive.go(a, b, c, d)); break;
            case 24: a = aClerk(); b = upTo(1); due("span(" + a + ", " + b + ")", road.span(a, b), naive.span(a, b)); break;
            case 25: a = upTo(10); b = upTo(Math.max(0, Math.min(10, a))); c = upTo(Math.max(0, Math.min(10, b))); d = upTo(10); e = upTo(1); due("odds(" + a + ", " + b + ", " + c + ", " + d + ", " + e + ")", road.odds(a, b, c, d, e), naive.odds(a, b, c, d, e)); break;
            case 26: a = upTo(10); b = upTo(Math.max(0, Math.min(10, a))); c = upTo(Math.max(0, Math.min(10, b))); d = upTo(1000); e = upTo(1); due("those(" + a + ", " + b + ", " + c + ", " + d + ", " + e + ")", road.those(a, b, c, d, e), naive.those(a, b, c, d, e)); break;
            case 27: due("bears()", road.bears(), naive.bears()); break;
            case 28: a = upTo(2); if (lot.nextInt(3) == 0) { due("again(" + a + ")", road.again(a), naive.again(a)); } break;
            case 29: a = upTo(4); due("check(" + a + ")", road.check(a), naive.check(a)); break;
            default: a = upTo(lot.nextBoolean() ? 10 : 30); due("count(" + a + ")", road.count(a), naive.count(a)); break;
        }
    }

    /** The naive road tries each price: only now and then where VALUES are great. */
    private boolean mayBeSlow() {
        return naive.values.stream().allMatch(v -> v <= 200) || lot.nextInt(40) == 0;
    }

    private void turnedCall() {
        int a = aSet();
        int b = lot.nextBoolean() ? aSet() : naive.rests(0);
        if (naive.clerks.size() > 6 && lot.nextInt(20) > 0) {
            return;
        }
        due("turned(" + a + ", " + b + ")", road.turned(a, b), naive.turned(a, b));
    }

    private void feedFive(int a, int b, int c, int d, int e) {
        due("feed(" + a + ", " + b + ", " + c + ", " + d + ", " + e + ")", road.feed(a, b, c, d, e), naive.feed(a, b, c, d, e));
    }

    private void clearTape() {
        due("check(0)", road.check(0), naive.check(0));
    }

    /** To CLERK who, THE LAW (20) or GAIN (21), seldom with a byte that is off. */
    private void text(int who) {
        String text = who == 21 ? gainText() : who == 20 ? clauses("gkb") : wayText();
        int most = who == 21 ? 60 : 160;
        if (text.length() > most) {
            text = who == 21 ? "o*2-f/3" : who == 20 ? "bx(1=1);g2(r=0);k9(x>5)" : "a9+f(r=1);w3(m<9)";
        }
        if (lot.nextInt(6) == 0) {
            text = spoil(text);
        }
        clearTape();
        StringBuilder padded = new StringBuilder(text);
        while (padded.length() % 20 != 0) {
            padded.append((char) lot.nextInt(256));
        }
        for (int k = 0; k < padded.length(); k += 20) {
            int[] five = new int[5];
            for (int j = 0; j < 20; j++) {
                five[j / 4] = five[j / 4] << 8 | padded.charAt(k + j);
            }
            feedFive(five[0], five[1], five[2], five[3], five[4]);
        }
        story.append("    ").append(text).append('\n');
        int n = text.length();
        if (who == 20) {
            due("law(" + n + ")", road.law(n), naive.law(n));
        } else if (who == 21) {
            due("gain(" + n + ")", road.gain(n), naive.gain(n));
        } else {
            due("way(" + who + ", " + n + ")", road.way(who, n), naive.way(who, n));
        }
    }

    private String wayText() {
        if (lot.nextInt(3) == 0) {
            return clauses("aw");
        }
        String price = lot.nextBoolean() ? e(1) : "" + (1 + lot.nextInt(80));
        return "w" + lot.nextInt(26) + "+" + factor(1) + "%5(" + (lot.nextInt(3) > 0 ? "1=1" : c(1)) + ");a" + price
            + "(" + (lot.nextBoolean() ? "1=1" : c(1)) + ")" + (lot.nextInt(3) == 0 ? ";" + clauses("aw") : "");
    }

    /** Among them such as never come to rest. */
    private String gainText() {
        switch (lot.nextInt(4)) {
            case 0: return "[o*2-" + lot.nextInt(5) + "]*[1-i*2]";
            case 1: return "[o*" + lot.nextInt(9) + "+i*" + lot.nextInt(9) + "]%" + lot.nextInt(7) + "-" + lot.nextInt(5);
            default: return e(2);
        }
    }

    private String spoil(String text) {
        int at = lot.nextInt(text.length());
        String signs = "aw;()[]!&|<>=+-*/%0123456789rchmsfpinoyxgkb z";
        String sign = "" + signs.charAt(lot.nextInt(signs.length()));
        switch (lot.nextInt(4)) {
            case 0: return text.substring(0, at) + sign + text.substring(at + 1);
            case 1: return text.substring(0, at) + sign + text.substring(at);
            case 2: return text.substring(0, at + 1);
            default: return text.length() > 1 ? text.substring(0, at) + text.substring(at + 1) : sign;
        }
    }

    private String clauses(String heads) {
        StringBuilder all = new StringBuilder();
        int n = lot.nextInt(12) == 0 ? 12 + lot.nextInt(3) : 1 + lot.nextInt(4);
        for (int k = 0; k < n; k++) {
            if (k > 0) {
                all.append(';');
            }
            all.append(heads.charAt(lot.nextInt(heads.length())));
            boolean isShort = n >= 12;
            all.append(isShort ? "" + lot.nextInt(90) : lot.nextInt(3) == 0 ? e(2) : "" + lot.nextInt(lot.nextBoolean() ? 9 : 90));
            all.append('(').append(isShort ? "m=" + lot.nextInt(9) : lot.nextInt(4) == 0 ? "1=1" : c(2)).append(')');
        }
        return all.toString();
    }

    private String e(int depth) {
        StringBuilder all = new StringBuilder(factor(depth));
        int n = lot.nextInt(3);
        for (int k = 0; k < n; k++) {
            all.append("+-*/%".charAt(lot.nextInt(5))).append(factor(depth));
        }
        return all.toString();
    }

    private String factor(int depth) {
        int kind = lot.nextInt(9);
        if (kind == 0 && depth > 0) {
            return "[" + e(lot.nextInt(6) == 0 ? depth + 2 : depth - 1) + "]";
        }
        if (kind < 4) {
            return "" + lot.nextInt(lot.nextInt(8) == 0 ? 130000 : lot.nextBoolean() ? 4 : 50);
        }
        return "" + "rchmsfpinoyx".charAt(lot.nextInt(12));
    }

    private String c(int depth) {
        StringBuilder all = new StringBuilder(piece(depth));
        int n = lot.nextInt(3);
        for (int k = 0; k < n; k++) {
            all.append("&|".charAt(lot.nextInt(2))).append(piece(depth));
        }
        return all.toString();
    }

    private String piece(int depth) {
        int kind = lot.nextInt(6);
        if (kind == 0 && depth > 0) {
            return "(" + c(lot.nextInt(6) == 0 ? depth + 2 : depth - 1) + ")";
        }
        if (kind == 1) {
            return "!" + piece(depth);
        }
        return e(1) + "<>=".charAt(lot.nextInt(3)) + e(1);
    }

    /** All FILES by threes, perhaps with one number off or some too few or too many. */
    private void tellAll() {
        clearTape();
        int n = Math.min(16, naive.files.size());
        int[] all = new int[60];
        for (int j = 0; j < n; j++) {
            all[3 * j] = j;
            all[3 * j + 1] = naive.files.get(j).step;
            all[3 * j + 2] = naive.files.get(j).coin;
        }
        if (lot.nextInt(3) == 0) {
            all[lot.nextInt(3 * n + 1)] += lot.nextInt(3) - 1;
        }
        for (int k = 0; k < 50; k += 5) {
            feedFive(all[k], all[k + 1], all[k + 2], all[k + 3], all[k + 4]);
        }
        int threes = n + (lot.nextInt(4) == 0 ? lot.nextInt(3) - 1 : 0);
        due("check(" + threes + ")", road.check(threes), naive.check(threes));
    }
}
