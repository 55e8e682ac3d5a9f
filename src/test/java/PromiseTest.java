/** Each promise of the document by hand: ordinary calls, the edges that it names, wrong calls. */
public final class PromiseTest extends Checks {
    public static void main(String[] args) {
        newObject();
        clerks();
        steps();
        seeds();
        files();
        feeds();
        ways();
        faults();
        reckoning();
        letters();
        laws();
        gains();
        monthsOfOne();
        monthsOfMany();
        monthsOfTelling();
        fileIs();
        clerkIs();
        asks();
        told();
        rests();
        turned();
        values();
        each();
        made();
        pages();
        spans();
        odds();
        those();
        bears();
        again();
        check();
        count();
        finish("all promises hold");
    }

    private static void newObject() {
        about("promise 1");
        StampRoad road = new StampRoad();
        for (int what = 0; what <= 10; what++) {
            due("count(" + what + ")", road.count(what), what == 8 ? 1 : 0);
        }
        due("count(20)", road.count(20), -1);
        due("rest(0)", road.rest(0), -1);
        due("NONE", StampRoad.NONE, -1);
        due("bears()", road.bears(), -1);
        due("again(0)", road.again(0), 0);
        due("again(2)", road.again(2), 1);
        due("month()", road.month(), 0);
    }

    private static void clerks() {
        about("promise 2");
        StampRoad road = new StampRoad();
        due("clerk(-1, 0)", road.clerk(-1, 0), -1);
        due("clerk(1001, 0)", road.clerk(1001, 0), -1);
        due("clerk(0, -1)", road.clerk(0, -1), -1);
        due("clerk(0, 101)", road.clerk(0, 101), -1);
        due("clerk(0, 0)", road.clerk(0, 0), 0);
        due("clerk(1000, 100)", road.clerk(1000, 100), 1);
        for (int i = 2; i < 10; i++) {
            due("clerk", road.clerk(1, 1), i);
        }
        due("an eleventh", road.clerk(1, 1), -1);
        due("count(1)", road.count(1), 10);
    }

    private static void steps() {
        about("promise 3");
        StampRoad road = withClerks(2);
        due("step(0, 0)", road.step(0, 0), -1);
        due("step(4, 0)", road.step(4, 0), -1);
        due("step(-1, 0)", road.step(-1, 0), -1);
        due("step(1, -1)", road.step(1, -1), -1);
        due("step(1, 3)", road.step(1, 3), -1);
        for (int s = 0; s < 8; s++) {
            due("step", road.step(1 + s % 3, s % 3), s);
        }
        due("a ninth", road.step(1, 0), -1);
        StampRoad other = withClerks(1);
        other.step(1, 0);
        other.file(1, 1, 1);
        due("behind a FILE", other.step(1, 0), -1);
        StampRoad all = withClerks(10);
        due("step(1023, 2)", all.step(1023, 2), 0);
        due("step(1024, 2)", all.step(1024, 2), -1);
    }

    private static void seeds() {
        about("promise 4");
        StampRoad road = new StampRoad();
        due("seed(-1)", road.seed(-1), false);
        due("seed(65536)", road.seed(65536), false);
        due("X", road.count(8), 1);
        due("seed(0)", road.seed(0), true);
        due("X", road.count(8), 0);
        due("seed(65535)", road.seed(65535), true);
        due("X", road.count(8), 65535);
    }

    private static void files() {
        about("promise 5");
        StampRoad road = withClerks(1);
        due("no STEP", road.file(1, 1, 1), -1);
        road.step(1, 0);
        due("file(-1, 0, 0)", road.file(-1, 0, 0), -1);
        due("file(2, 0, 0)", road.file(2, 0, 0), -1);
        due("file(0, -1, 0)", road.file(0, -1, 0), -1);
        due("file(0, 10001, 0)", road.file(0, 10001, 0), -1);
        due("file(0, 0, -1)", road.file(0, 0, -1), -1);
        due("file(0, 0, 201)", road.file(0, 0, 201), -1);
        due("file(1, 10000, 200)", road.file(1, 10000, 200), 0);
        for (int j = 1; j < 40; j++) {
            due("file", road.file(0, 0, 0), j);
        }
        due("a 41st", road.file(0, 0, 0), -1);
        due("STEP", road.fileIs(39, 0), 0);
        due("month", road.month(), 0);
        due("a 41st", road.file(0, 0, 0), -1);
    }

    private static void feeds() {
        about("promise 6");
        StampRoad road = withClerks(1);
        for (int k = 1; k <= 10; k++) {
            due("feed", road.feed(0, 0, 0, 0, 0), 20 * k);
        }
        due("feed", road.feed(0, 0, 0, 0, 0), -1);
        due("count(4)", road.count(4), 200);
        due("way(0, 160)", road.way(0, 160), -1000);
        due("count(4)", road.count(4), 0);
        due("feed", road.feed('a' << 24 | '1' << 16 | '(' << 8 | '1', '=' << 24 | '1' << 16 | ')' << 8, -1, -1, -1), 20);
        due("way(0, 7)", road.way(0, 7), 1);
    }

    private static void ways() {
        about("promise 7");
        StampRoad road = withClerks(1);
        put(road, "a1(1=1)");
        due("way(1, 7)", road.way(1, 7), -1);
        due("way(-1, 7)", road.way(-1, 7), -1);
        due("way(0, 0)", road.way(0, 0), -1);
        due("way(0, 21)", road.way(0, 21), -1);
        due("way(0, MIN)", road.way(0, Integer.MIN_VALUE), -1);
        due("the tape stays", road.count(4), 20);
        due("way(0, 7)", road.way(0, 7), 1);
        due("the tape is empty", road.count(4), 0);
        due("in place of the one before", way(road, 0, "w1(1=1);a2(m<3)"), 2);
        due("count(20)", road.count(20), 2);
        due("a FAULT", way(road, 0, "w1(1=1);a2(m<3);"), -1016);
        due("the tape is empty", road.count(4), 0);
        due("the TEXT before stays", road.count(20), 2);
        road.step(1, 0);
        road.file(1, 0, 0);
        due("asks a", road.asks(0, 0, 0), 2);
        due("asks w", road.asks(0, 0, 1), 1);
        StringBuilder longest = new StringBuilder("a1(1=1");
        while (longest.length() < 157) {
            longest.append("+0");
        }
        longest.append("+");
        longest.setLength(159);
        String text = longest.toString().replaceAll("\\+$", "0") + ")";
        due("160 bytes", text.length(), 160);
        due("way(0, 160)", way(road, 0, text), 1);
        put(road, text + "1");
        due("way(0, 161)", road.way(0, 161), -1);
    }

    private static void fault(String text, int want) {
        StampRoad road = withClerks(1);
        due(text, way(road, 0, text), want);
    }

    private static void faults() {
        about("promise 7");
        fault("b1(1=1)", -1000);
        fault("(1=1)", -1000);
        fault(" a1(1=1)", -1000);
        fault("a", -1001);
        fault("a(1=1)", -1001);
        fault("aa1(1=1)", -1001);
        fault("a-1(1=1)", -1001);
        fault("a1", -1002);
        fault("a1[1](1=1)", -1002);
        fault("a1+(1=1)", -1003);
        fault("a1()", -1003);
        fault("a1(1)", -1004);
        fault("a1(1=)", -1005);
        fault("a1(1=1=1)", -1006);
        fault("a1(1=1", -1006);
        fault("a1(1=1]", -1006);
        fault("a1(1=1&)", -1007);
        fault("a1(1=1|)", -1007);
        fault("a1(1=1!)", -1006);
        fault("a1(!)", -1004);
        fault("a1((1=1)=1)", -1008);
        fault("a1((1)=1)", -1005);
        fault("a[1)(1=1)", -1003);
        fault("a[](1=1)", -1002);
        fault("a1(1=1) ", -1007);
        fault("a1(1=1),a1(1=1)", -1007);
        fault("a1(1=1);", -1008);
        fault("a1(1=1);;", -1008);
        fault("a1(1=1);b1(1=1)", -1008);
        fault("az(1=1)", -1001);
        fault("aA(1=1)", -1001);
        fault("a\u00e1(1=1)", -1001);
        fault("a12345(1=1)", 1);
        fault("a123456(1=1)", -2006);
        fault("a000001(1=1)", -2006);
        fault("a12345a(1=1)", -1006);
        fault("a1(1=123456)", -2010);
        String clause = "a1(1=1);";
        StringBuilder twelve = new StringBuilder();
        for (int k = 0; k < 12; k++) {
            twelve.append(clause);
        }
        String whole = twelve.toString();
        fault(whole.substring(0, 95), 12);
        fault(whole, -1096);
        fault(whole + "w1(1=1)", -4096);
        fault(whole + "w", -4096);
        fault(whole + "g1(1=1)", -1096);
        fault("a[[[[[[1]]]]]](1=1)", 1);
        fault("a[[[[[[[1]]]]]]](1=1)", -5007);
        fault("a1((((((1=1))))))", 1);
        fault("a1(((((((1=1)))))))", -5008);
        fault("a1(!!!!!1=1)", 1);
        fault("a1(!!!!!!1=1)", -5008);
        fault("a1(!!!!![1]=1)", -5008);
        fault("a1(!!!!!1=1&!!!!!1=1)", 1);
        fault("a1(!(!(!1=1)))", 1);
        fault("a1(!(!(!(1=1))))", -5008);
        fault("a1(!(!(1=1)&[1]=1&!1=1))", 1);
        fault("a1(!(!(!1=[1])))", -5010);
        fault("a1(!(!([[1]]=1)))", -5008);
        fault("a1(!(!([1]=1)))", 1);
        fault("a1((((((!1=1))))))", -5008);
        fault("a1((((((]1=1))))))", -1008);
    }

    private static void reckoning() {
        about("promise 7");
        worth("2+3*4", 14);
        worth("20-3-4", 13);
        worth("20-[3-4]", 21);
        worth("100/7/2", 7);
        worth("100%7*3", 6);
        worth("3*100%7", 6);
        worth("7-100", 0);
        worth("99999", 10000);
        worth("10001", 10000);
        worth("c", 500);
        worth("1/0", 0);
        worth("5+1%0", 0);
        worth("0*[1/0]", 0);
        worth("[0-7]/2+10", 7);
        worth("[0-7]%2+10", 9);
        worth("65536*65536+3", 3);
        worth("65535*65536+3", 0);
        worth("46341*46341/0-1", 0);
        worth("[32768*65535+32768+[32768*65535+32768]]/1+9", 9);
        worth("[0-32768*65535-32768*1]/[0-1]/99999*[0-1]", 10000);
        holds("1=1", true);
        holds("1<1", false);
        holds("2>1", true);
        holds("!1=1", false);
        holds("!!1=1", true);
        holds("1=2|1=1", true);
        holds("1=1|1=1&1=2", true);
        holds("1=2&1=2|1=1", true);
        holds("(1=1|1=1)&1=2", false);
        holds("!(1=1&1=2)", true);
        holds("!1=2&1=1", true);
        holds("!1=1|1=1", true);
        holds("1/0=0", false);
        holds("!1/0=0", false);
        holds("!(1%0=1)", false);
        holds("1=1|1/0=0", true);
        holds("1/0=0|1=1", false);
        holds("1=2&1/0=0|1=1", true);
        holds("1=1&1/0=0|1=1", false);
        holds("(1=1|1/0=0)&1=1", true);
        holds("!(1=2&1/0=0)", true);
        holds("1=2|1=1|1/0=0", true);
        holds("1=1&1=2&1/0=0|1=1", true);
        StampRoad road = oneStep("a1(1=2);a2(1/0=0);w3(1=1);a1/0(1=1);a5(1=1);w9(1=1)");
        road.file(1, 1, 1);
        due("the first that holds", road.asks(0, 0, 0), 0);
        due("of its letter", road.asks(0, 0, 1), 3);
        due("in place", way(road, 0, "w25(1=1)"), 1);
        due("24 at most", road.asks(0, 0, 1), 24);
        due("none: 0", road.asks(0, 0, 0), 0);
        due("in place", way(road, 0, "w3-5(1=1)"), 1);
        due("0 at least", road.asks(0, 0, 1), 0);
    }

    private static void letters() {
        about("promise 13");
        String names = "rchmsfpinoyx";
        int[] want = {1, 501, 43, 1, 1, 10, 100, 1, 2, 1, 2, 0};
        for (int k = 0; k < names.length(); k++) {
            StampRoad other = withClerks(2);
            other.step(1, 0);
            other.step(2, 0);
            way(other, 0, "a7(r=1&y=0|y=1&r=0);w9(r=1)");
            other.file(1, 508, 43);
            other.file(1, 1, 0);
            way(other, 1, "w9(1=1)");
            due("month 0", other.month(), 7);
            other.file(0, 8, 0);
            due("month 1", other.month(), 7);
            way(other, 1, "a" + names.charAt(k) + "(1=1)");
            due("letter " + names.charAt(k), other.asks(1, 0, 0), want[k]);
            way(other, 1, "w" + names.charAt(k) + "(1=1)");
            due("letter " + names.charAt(k), other.asks(1, 0, 1), Math.min(24, want[k]));
        }
    }

    private static void laws() {
        about("promise 8");
        StampRoad road = oneStep("a1(1=1)");
        put(road, "g1(1=1)");
        due("law(0)", road.law(0), -1);
        due("law(21)", road.law(21), -1);
        due("the tape stays", road.count(4), 20);
        due("law(7)", road.law(7), 1);
        due("gkb", law(road, "g1(1=1);k2(1=1);b3(1=1)"), 3);
        due("count(9)", road.count(9), 3);
        due("a FAULT", law(road, "a1(1=1)"), -1000);
        due("a FAULT", law(road, "g1(1=1);w1(1=1)"), -1008);
        due("the tape is empty", road.count(4), 0);
        due("stays", road.count(9), 3);
        road.file(1, 9, 9);
        due("stays", road.told(0, 0, 1, 1), 2);
    }

    private static void gains() {
        about("promise 9");
        StampRoad road = withClerks(1);
        put(road, "o+1");
        due("gain(0)", road.gain(0), -1);
        due("gain(21)", road.gain(21), -1);
        due("the tape stays", road.count(4), 20);
        due("gain(3)", road.gain(3), 1);
        due("the tape is empty", road.count(4), 0);
        due("wants to", road.goesTo(0), 1);
        due("a FAULT", gain(road, "o+"), -1002);
        due("a FAULT", gain(road, "o)"), -1001);
        due("a FAULT", gain(road, "o=1"), -1001);
        due("a FAULT", gain(road, "w"), -1000);
        due("a FAULT", gain(road, "123456"), -2005);
        due("a FAULT", gain(road, "[[[[[[[1"), -5006);
        due("a FAULT", gain(road, "[[[[[[1"), -1007);
        due("six", gain(road, "[[[[[[1]]]]]]"), 1);
        due("others", gain(road, "r+c+h+m+s+y+x"), 1);
        due("are 0", road.rests(-1), 2);
        StringBuilder sixty = new StringBuilder("12");
        while (sixty.length() < 60) {
            sixty.append("-1");
        }
        due("60 bytes", gain(road, sixty.toString()), 1);
        due("below 0", road.goesTo(1), 0);
        put(road, sixty + "1");
        due("61 bytes", road.gain(61), -1);
        due("the tape stays", road.count(4), 80);
    }

    private static void monthsOfOne() {
        about("promise 10");
        StampRoad road = oneStep("a60(1=1);w3(1=1)");
        road.file(1, 60, 20);
        road.file(1, 59, 20);
        road.file(1, 100, 19);
        road.file(0, 60, 0);
        road.file(0, 59, 200);
        due("month 0", road.month(), 120);
        int[] done = {0, -1, -1, 0, -1};
        for (int j = 0; j < 5; j++) {
            due("DONE " + j, road.fileIs(j, 5), done[j]);
        }
        due("month 1", road.month(), 0);
        due("month 2", road.month(), 0);
        due("m", road.fileIs(1, 2), 3);
        due("month 3", road.month(), 0);
        due("waited", road.fileIs(1, 5), 3);
        due("waited", road.fileIs(2, 5), 3);
        due("has no RIGHT", road.fileIs(4, 0), 0);
        due("m", road.fileIs(4, 2), 4);
        StampRoad late = oneStep("a60(m>1);w4(1=1)");
        late.file(1, 60, 30);
        late.file(1, 60, 29);
        late.month();
        late.month();
        due("60 for two MONTHS", late.month(), 60);
        due("paid", late.fileIs(0, 3), 60);
        due("not", late.fileIs(1, 3), 0);
        StampRoad free = oneStep("w2(1=1)");
        free.file(0, 100, 9);
        free.month();
        free.month();
        due("waits without a price", free.fileIs(0, 0), 0);
        free.month();
        due("and goes on", free.fileIs(0, 5), 2);
        StampRoad longest = new StampRoad();
        for (int y = 0; y < 239; y++) {
            due("month", longest.month(), 0);
        }
        due("it is 239", longest.month(), -1);
        due("count(0)", longest.count(0), 239);
    }

    private static void monthsOfMany() {
        about("promise 10");
        StampRoad road = withClerks(3);
        way(road, 0, "a5(1=1);w1(1=1)");
        way(road, 1, "a4(1=1);w3(1=1)");
        way(road, 2, "a4(1=1);w2(1=1)");
        road.step(7, 1);
        road.step(6, 0);
        road.step(6, 2);
        road.file(0, 100, 1);
        due("ANY", road.month(), 4);
        due("waits least", road.clerkIs(2, 1), 1);
        due("ONE", road.month(), 4);
        due("the lowest", road.clerkIs(1, 1), 1);
        due("took", road.count(10), 1);
        due("LOT", road.month(), 4);
        due("X", road.count(8), 39022);
        due("39022 is even", road.clerkIs(1, 1), 2);
        due("DONE", road.fileIs(0, 5), 2);
        due("nobody", road.month(), 0);
        due("took", road.count(10), 0);
        due("X stays", road.count(8), 39022);
        StampRoad equal = withClerks(3);
        equal.step(6, 1);
        equal.file(0, 9, 9);
        way(equal, 1, "a3(1=1)");
        way(equal, 2, "a3(1=1)");
        equal.month();
        due("then the lowest", equal.clerkIs(1, 1), 1);
        StampRoad none = withClerks(2);
        none.step(3, 1);
        none.file(1, 50, 200);
        way(none, 0, "a1(1=1)");
        way(none, 1, "w24(1=1)");
        due("not asking is 0", none.month(), 0);
        due("waits", none.fileIs(0, 2), 1);
        StampRoad crowd = oneStep("an(1=1)");
        crowd.step(1, 0);
        crowd.file(0, 100, 0);
        crowd.file(0, 100, 0);
        crowd.file(0, 100, 0);
        due("as it is then", crowd.month(), 3 + 2 + 1);
        crowd.file(0, 100, 0);
        due("one ahead of them", crowd.month(), 3 + 2 + 1 + 1);
        StampRoad lots = withClerks(3);
        lots.step(5, 2);
        way(lots, 0, "a1(1=1)");
        way(lots, 2, "a100(1=1)");
        lots.seed(2);
        lots.file(0, 1000, 0);
        lots.file(0, 1000, 0);
        lots.file(0, 1000, 0);
        due("by lot: 64195, 7896, 9169", lots.month(), 201);
        due("X", lots.count(8), 9169);
        lots.month();
        due("those who are DONE draw none", lots.count(8), 9169);
    }

    private static void monthsOfTelling() {
        about("promise 10");
        StampRoad road = oneStep("a30(1=1)");
        law(road, "g10(1=1);k200(1=1);bx(c=100);b10(1=1)");
        road.file(0, 100, 0);
        road.file(0, 99, 0);
        due("month", road.month(), 60);
        due("had back", road.fileIs(0, 1), 100 - 30 - 10 + 30);
        due("TOLD", road.fileIs(0, 4), 1);
        due("PAID", road.fileIs(0, 3), 30);
        due("b is not more than g", road.fileIs(1, 1), 69);
        due("not TOLD", road.fileIs(1, 4), 0);
        due("below 0", road.clerkIs(0, 0), 30 - 30 - 200 + 30);
        due("TOOK", road.clerkIs(0, 1), 2);
        StampRoad rich = oneStep("a1(1=1)");
        law(rich, "b10000(s=0&n=1&m=0&x=1)");
        rich.file(0, 10000, 0);
        rich.month();
        due("more than it came with", rich.fileIs(0, 1), 19999);
    }

    private static void fileIs() {
        about("promise 11");
        StampRoad road = oneStep("a5(1=1)");
        road.month();
        road.file(0, 7, 0);
        due("STEP", road.fileIs(0, 0), 0);
        due("COIN", road.fileIs(0, 1), 7);
        due("not DONE", road.fileIs(0, 5), -1);
        due("came", road.fileIs(0, 6), 1);
        road.month();
        int[] want = {1, 2, 0, 5, 0, 1, 1};
        for (int what = 0; what < 7; what++) {
            due("fileIs(0, " + what + ")", road.fileIs(0, what), want[what]);
        }
        due("fileIs(0, 7)", road.fileIs(0, 7), -1);
        due("fileIs(0, -1)", road.fileIs(0, -1), -1);
        due("fileIs(1, 0)", road.fileIs(1, 0), -1);
        due("fileIs(-1, 0)", road.fileIs(-1, 0), -1);
    }

    private static void clerkIs() {
        about("promise 12");
        StampRoad road = withClerks(2);
        due("has", road.clerkIs(1, 0), 0);
        due("took", road.clerkIs(1, 1), 0);
        due("PAY", road.clerkIs(1, 2), 100);
        due("FEAR", road.clerkIs(1, 3), 10);
        due("clerkIs(1, 4)", road.clerkIs(1, 4), NOT_A_CLERK);
        due("clerkIs(1, -1)", road.clerkIs(1, -1), NOT_A_CLERK);
        due("clerkIs(2, 0)", road.clerkIs(2, 0), NOT_A_CLERK);
        due("clerkIs(-1, 0)", road.clerkIs(-1, 0), NOT_A_CLERK);
    }

    private static void asks() {
        about("promise 13");
        StampRoad road = withClerks(3);
        road.step(3, 0);
        road.file(1, 9, 9);
        way(road, 1, "a9(1=1);w8(1=1)");
        due("of the set", road.asks(1, 0, 0), 9);
        due("of the set", road.asks(1, 0, 1), 8);
        due("without a WAY", road.asks(0, 0, 1), 0);
        due("not of the STEP", road.asks(2, 0, 0), -1);
        due("no such CLERK", road.asks(3, 0, 0), -1);
        due("no such CLERK", road.asks(-1, 0, 0), -1);
        due("no such FILE", road.asks(0, 1, 0), -1);
        due("no such FILE", road.asks(0, -1, 0), -1);
        due("no such what", road.asks(0, 0, 2), -1);
        due("no such what", road.asks(0, 0, -1), -1);
        road.month();
        due("DONE", road.asks(0, 0, 0), -1);
    }

    private static void told() {
        about("promise 14");
        StampRoad road = withClerks(2);
        road.step(1, 0);
        road.file(1, 9, 9);
        due("no LAW", road.told(0, 0, 5, 0), 0);
        law(road, "gx+i(1=1);kc*f(1=1);b0-5(1=1)");
        due("g", road.told(1, 0, 5, 0), 6);
        due("k", road.told(1, 0, 5, 1), 90);
        due("b", road.told(1, 0, 5, 2), 0);
        due("10000 at most", road.told(1, 0, 10000, 0), 10000);
        due("x", road.told(1, 0, -1, 0), -1);
        due("x", road.told(1, 0, 10001, 0), -1);
        due("what", road.told(1, 0, 0, 3), -1);
        due("what", road.told(1, 0, 0, -1), -1);
        due("no such CLERK", road.told(2, 0, 0, 0), -1);
        due("no such CLERK", road.told(-1, 0, 0, 0), -1);
        due("no such FILE", road.told(1, 1, 0, 0), -1);
        due("no such FILE", road.told(1, -1, 0, 0), -1);
        road.month();
        due("DONE", road.told(1, 0, 0, 0), -1);
    }

    private static void rests() {
        about("promise 15");
        StampRoad road = withClerks(3);
        due("no GAIN", road.rest(0), -1);
        due("no GAIN", road.rests(-1), -1);
        due("no GAIN", road.goesTo(0), -1);
        gain(road, "o*2-1");
        due("nobody", road.rest(0), 1);
        due("all", road.rest(7), 1);
        due("two", road.rest(3), 0);
        due("no such set", road.rest(8), -1);
        due("no such set", road.rest(-1), -1);
        about("promise 16");
        due("how many", road.rests(-1), 2);
        due("first", road.rests(0), 0);
        due("second", road.rests(1), 7);
        due("third", road.rests(2), -1);
        due("rests(-2)", road.rests(-2), -1);
        about("promise 17");
        due("from 1", road.goesTo(1), 0);
        due("from 2", road.goesTo(2), 7);
        due("from 0", road.goesTo(0), 0);
        due("no such set", road.goesTo(8), -1);
        due("no such set", road.goesTo(-1), -1);
        gain(road, "1/0");
        due("REFUSED is 0", road.rests(-1), 8);
        gain(road, "i-1");
        due("0: as he does", road.rests(-1), 2);
        due("0: as he does", road.rests(1), 6);
        gain(road, "p-150");
        due("PAY", road.goesTo(0), 4);
        gain(road, "15-f");
        due("FEAR", road.goesTo(4), 3);
        gain(road, "n-2");
        due("n", road.goesTo(0), 7);
        road.clerk(0, 0);
        due("a CLERK more", road.goesTo(0), 15);
        StampRoad pair = withClerks(2);
        gain(pair, "[o*2-1]*[1-i*2]");
        due("none", pair.goesTo(0), -2);
        due("none", pair.rests(-1), 0);
        due("none", pair.rests(0), -1);
        StampRoad empty = new StampRoad();
        gain(empty, "1");
        due("no CLERKS", empty.rests(-1), 1);
        due("no CLERKS", empty.goesTo(0), 0);
        due("no CLERKS", empty.turned(0, 0), 0);
    }

    private static void turned() {
        about("promise 18");
        StampRoad road = withClerks(4);
        due("no GAIN", road.turned(0, 0), -1);
        gain(road, "o*2-3");
        due("two turn it, but not 0 with another", road.turned(0, 15), 6);
        due("from one", road.turned(4, 15), 2);
        due("back", road.turned(15, 0), 6);
        due("by itself", road.turned(12, 15), 0);
        due("no REST", road.turned(0, 3), -1);
        due("no such set", road.turned(16, 0), -1);
        due("no such set", road.turned(0, 16), -1);
        due("no such set", road.turned(-1, 0), -1);
        due("no such set", road.turned(0, -1), -1);
        gain(road, "0");
        due("just those", road.turned(5, 10), 15);
        due("nobody", road.turned(5, 5), 0);
    }

    private static void values() {
        about("promise 19");
        StampRoad road = new StampRoad();
        due("value(-1)", road.value(-1), -1);
        due("value(10001)", road.value(10001), -1);
        due("count(5)", road.count(5), 0);
        about("promise 20");
        due("no VALUES", road.one(0), 0);
        due("no VALUES", road.one(1), 0);
        due("value(0)", road.value(0), 1);
        due("one(0)", road.one(0), 0);
        due("value(12)", road.value(12), 2);
        due("value(6)", road.value(6), 3);
        due("of like ones the least", road.one(0), 6);
        due("brings", road.one(1), 12);
        due("value(4)", road.value(4), 4);
        due("of like ones the least", road.one(0), 4);
        due("value(10000)", road.value(10000), 5);
        due("one(0)", road.one(0), 10000);
        due("one(1)", road.one(1), 10000);
        due("one(2)", road.one(2), -1);
        due("one(-1)", road.one(-1), -1);
        about("promise 19");
        for (int k = 6; k <= 20; k++) {
            due("value", road.value(10000), k);
        }
        due("a 21st", road.value(1), -1);
        due("one(1)", road.one(1), 160000);
    }

    private static void each() {
        about("promise 21");
        StampRoad road = new StampRoad();
        due("no VALUES", road.each(3, 0), 0);
        for (int v = 1; v <= 20; v++) {
            road.value(5 * v);
        }
        due("of one as ONE", road.each(1, 0), road.one(0));
        due("of one as ONE", road.each(1, 1), road.one(1));
        due("of two", road.each(2, 0), 70);
        due("of two", road.each(2, 1), 70 * 7);
        due("each(0, 0)", road.each(0, 0), -1);
        due("each(12, 0)", road.each(12, 0), -1);
        due("each(1, 2)", road.each(1, 2), -1);
        due("each(1, -1)", road.each(1, -1), -1);
        due("of eleven: nobody changes", road.each(11, 0) >= road.each(2, 0), true);
    }

    private static void made() {
        about("promise 22");
        StampRoad road = oneStep("w24(1=1)");
        road.step(1, 0);
        due("nobody", road.made(0, 0), 0);
        due("nobody", road.made(0, 1), 0);
        road.file(1, 40, 10);
        road.file(1, 2400, 1);
        road.file(0, 10000, 200);
        due("MONTHS", road.made(0, 0), 4);
        due("brings", road.made(0, 1), 44);
        due("at the other STEP", road.made(1, 0), 0);
        road.file(1, 10000, 3);
        due("24 at most", road.made(0, 0), 24);
        due("brings", road.made(0, 1), 96);
        due("no such STEP", road.made(2, 0), -1);
        due("no such STEP", road.made(-1, 0), -1);
        due("no such what", road.made(0, 2), -1);
        due("no such what", road.made(0, -1), -1);
        for (int y = 0; y < 25; y++) {
            road.month();
        }
        due("gone on", road.made(0, 1), 0);
        due("gone on", road.made(1, 1), 96);
    }

    private static void pages() {
        about("promise 23");
        StampRoad road = withClerks(1);
        due("no STEP", road.entry(0, 1), -1);
        road.step(1, 0);
        road.step(1, 0);
        due("entry(2, 1)", road.entry(2, 1), -1);
        due("entry(-1, 1)", road.entry(-1, 1), -1);
        due("entry(0, -1)", road.entry(0, -1), -1);
        due("entry(0, 10001)", road.entry(0, 10001), -1);
        about("promise 24");
        due("no ENTRIES", road.middle(0, 0, 0), -2);
        road.entry(0, 40);
        road.entry(1, 7);
        road.entry(0, 10);
        road.entry(0, 20);
        road.entry(0, 10000);
        due("of four the third", road.middle(0, 0, 0), 40);
        due("from", road.middle(0, 1, 0), 20);
        due("to", road.middle(0, 1, 1), 10000);
        due("from", road.middle(0, 2, 0), 10);
        due("from", road.middle(0, 3, 0), 0);
        due("to", road.middle(0, 2, 1), 10000);
        due("of one", road.middle(1, 0, 1), 7);
        due("of one", road.middle(1, 1, 0), 0);
        due("of one", road.middle(1, 60, 1), 10000);
        due("middle(1, 61, 1)", road.middle(1, 61, 1), -1);
        due("middle(1, -1, 1)", road.middle(1, -1, 1), -1);
        due("middle(2, 0, 1)", road.middle(2, 0, 1), -1);
        due("middle(-1, 0, 1)", road.middle(-1, 0, 1), -1);
        due("middle(0, 0, 2)", road.middle(0, 0, 2), -1);
        due("middle(0, 0, -1)", road.middle(0, 0, -1), -1);
        about("promise 23");
        for (int k = 6; k <= 60; k++) {
            due("entry", road.entry(1, k), k);
        }
        due("a 61st", road.entry(1, 1), -1);
        due("count(6)", road.count(6), 60);
    }

    private static void spans() {
        about("promise 25");
        StampRoad road = withClerks(3);
        due("go(0, 1, 0, 0)", road.go(0, 1, 0, 0), -1);
        due("go(8, 1, 0, 0)", road.go(8, 1, 0, 0), -1);
        due("go(-1, 1, 0, 0)", road.go(-1, 1, 0, 0), -1);
        due("go(1, -1, 0, 0)", road.go(1, -1, 0, 0), -1);
        due("go(1, 30001, 0, 0)", road.go(1, 30001, 0, 0), -1);
        due("go(1, 10, -1, 0)", road.go(1, 10, -1, 0), -1);
        due("go(1, 10, 2, 1)", road.go(1, 10, 2, 1), -1);
        due("go(1, 10, 2, 11)", road.go(1, 10, 2, 11), -1);
        due("go(1, 10, 2, MAX)", road.go(1, 10, 2, Integer.MAX_VALUE), -1);
        due("count(7)", road.count(7), 0);
        about("promise 26");
        due("of three", road.go(7, 25000, 0, 0), 0);
        due("least", road.span(0, 0), 5000);
        due("greatest", road.span(0, 1), 10000);
        due("of two", road.go(6, 17000, 1000, 1500), 1);
        due("one by one, not two together", road.span(0, 0), 5000);
        due("one by one, not two together", road.span(0, 1), 10000);
        due("of the others", road.span(1, 0), 5500);
        due("of the others", road.span(2, 1), 10000);
        StampRoad chain = withClerks(4);
        chain.go(3, 100, 0, 0);
        chain.go(6, 300, 100, 150);
        chain.go(4, 120, 0, 20);
        due("0 least", chain.span(0, 0), 0);
        due("0 greatest", chain.span(0, 1), 70);
        due("1 least", chain.span(1, 0), 30);
        due("1 greatest", chain.span(1, 1), 100);
        due("2 least", chain.span(2, 0), 100);
        due("2 greatest", chain.span(2, 1), 120);
        due("3 least", chain.span(3, 0), 0);
        due("3 greatest", chain.span(3, 1), 10000);
        due("span(4, 0)", chain.span(4, 0), -1);
        due("span(-1, 0)", chain.span(-1, 0), -1);
        due("span(0, 2)", chain.span(0, 2), -1);
        due("span(0, -1)", chain.span(0, -1), -1);
        chain.clerk(0, 0);
        due("a CLERK more", chain.span(4, 1), 10000);
        due("more than a CLERK may ask", chain.go(8, 10001, 0, 0), 3);
        due("turned over", chain.span(0, 0), -2);
        due("turned over", chain.span(4, 1), -2);
        due("no such ones all the same", chain.span(5, 1), -1);
        about("promise 25");
        for (int k = 4; k < 8; k++) {
            due("go", chain.go(1, 30000, 0, 30000), k);
        }
        due("a ninth", chain.go(1, 1, 0, 0), -1);
        about("promise 26");
        StampRoad slow = withClerks(2);
        slow.go(3, 10000, 0, 0);
        slow.go(3, 10001, 0, 0);
        due("step by step turned over", slow.span(0, 0), -2);
    }

    private static void odds() {
        about("promise 27");
        StampRoad road = new StampRoad();
        due("above", road.odds(10, 5, 2, 4, 0), 10);
        due("below", road.odds(10, 5, 2, 4, 1), 21);
        due("nobody tried", road.odds(3, 0, 0, 2, 0), 1);
        due("nobody tried", road.odds(3, 0, 0, 2, 1), 1);
        due("can't be", road.odds(3, 3, 1, 2, 0), 0);
        due("can't be", road.odds(3, 3, 1, 2, 1), 1);
        due("all", road.odds(3, 3, 2, 2, 0), 1);
        due("n 0", road.odds(0, 0, 0, 0, 0), -1);
        due("n 11", road.odds(11, 0, 0, 0, 0), -1);
        due("m 4 of 3", road.odds(3, 4, 0, 0, 0), -1);
        due("m -1", road.odds(3, -1, 0, 0, 0), -1);
        due("k 3 of 2", road.odds(3, 2, 3, 0, 0), -1);
        due("k -1", road.odds(3, 2, -1, 0, 0), -1);
        due("t 4 of 3", road.odds(3, 2, 1, 4, 0), -1);
        due("t -1", road.odds(3, 2, 1, -1, 0), -1);
        due("what 2", road.odds(3, 2, 1, 1, 2), -1);
        due("what -1", road.odds(3, 2, 1, 1, -1), -1);
    }

    private static void those() {
        about("promise 28");
        StampRoad road = new StampRoad();
        due("least", road.those(10, 5, 0, 1, 0), 0);
        due("greatest", road.those(10, 5, 0, 1, 1), 5);
        due("1 of 252 is not below 3", road.those(10, 5, 0, 3, 1), 5);
        due("but below 4", road.those(10, 5, 0, 4, 1), 4);
        due("just a half", road.those(2, 1, 1, 500, 0), 1);
        due("more than a half", road.those(2, 1, 1, 501, 0), 2);
        due("sure", road.those(2, 1, 1, 1000, 1), 2);
        due("none", road.those(4, 2, 1, 1000, 0), -2);
        due("0 thousandths", road.those(4, 2, 1, 0, 0), -1);
        due("1001 thousandths", road.those(4, 2, 1, 1001, 0), -1);
        due("what 2", road.those(4, 2, 1, 1, 2), -1);
        due("what -1", road.those(4, 2, 1, 1, -1), -1);
        due("k 3 of 2", road.those(4, 2, 3, 1, 0), -1);
        due("n 0", road.those(0, 0, 0, 1, 0), -1);
    }

    private static void bears() {
        about("promise 29");
        StampRoad two = withClerks(1);
        two.step(1, 0);
        way(two, 0, "a30(c>0&c<100);a60(c>99)");
        law(two, "bx(c=60)");
        two.file(0, 0, 0);
        two.file(0, 200, 0);
        two.file(0, 60, 0);
        two.file(0, 120, 0);
        due("nobody yet", two.bears(), -1);
        two.month();
        due("60 of 200, 30 of 60, 60 of 120", two.bears(), 2);
        due("what it had back aside", two.fileIs(2, 1), 60);
        two.file(0, 40, 0);
        two.month();
        due("30 of 40", two.bears(), 4);
    }

    private static void again() {
        about("promise 30");
        StampRoad road = withClerks(2);
        road.step(3, 2);
        road.step(1, 0);
        way(road, 0, "a10(1=1)");
        road.file(0, 100, 0);
        road.month();
        int first = road.clerkIs(0, 0);
        road.month();
        road.file(0, 100, 0);
        due("one is DONE", road.again(0), 1);
        due("PAID", road.again(1), first + 10);
        due("as now", road.again(2), 1);
        due("X stays", road.count(8), 39022);
        due("NOW stays", road.count(0), 2);
        way(road, 0, "a10(y=0);w5(1=1)");
        due("TEXTS as they are now", road.again(0), 0);
        due("elsewhere", road.again(2), 0);
        due("FILES stay", road.fileIs(0, 0), 2);
        due("again(3)", road.again(3), -1);
        due("again(-1)", road.again(-1), -1);
        StampRoad lots = withClerks(2);
        lots.step(3, 2);
        way(lots, 0, "a10(1=1)");
        lots.file(0, 100, 0);
        due("X 39022: CLERK 0", lots.month(), 10);
        lots.seed(2);
        due("THE SEED told last, X 64195: CLERK 1", lots.again(1), 0);
        due("count(8)", lots.count(8), 2);
        StampRoad took = withClerks(2);
        took.step(1, 0);
        way(took, 0, "a10+o(1=1)");
        took.file(0, 100, 0);
        took.month();
        took.file(0, 100, 0);
        due("o 1", took.month(), 11);
        due("o as it was", took.again(1), 21);
        due("o stays", took.count(10), 1);
        law(took, "b5(1=1)");
        took.again(0);
        due("COIN stays", took.fileIs(0, 1), 90);
        due("CLERKS stay", took.clerkIs(0, 0), 21);
    }

    private static void check() {
        about("promise 31");
        StampRoad road = oneStep("a5(c=9)");
        due("no FILES", road.check(0), -1);
        road.file(0, 9, 0);
        road.file(0, 8, 0);
        road.month();
        road.file(0, 7, 0);
        road.feed(0, 1, 4, 1, 1);
        road.feed(8, 2, 0, 7, -1);
        due("-2", road.check(4), -2);
        due("-2", road.check(-1), -2);
        due("-2", road.check(Integer.MAX_VALUE), -2);
        due("-2", road.check(Integer.MIN_VALUE), -2);
        due("the tape stays", road.count(4), 40);
        due("right", road.check(3), -1);
        due("the tape is empty", road.count(4), 0);
        road.feed(0, 1, 4, 1, 1);
        road.feed(8, 0, 0, 0, 0);
        due("some are lacking", road.check(2), 6);
        road.feed(0, 1, 4, 2, 1);
        road.feed(8, 0, 0, 0, 0);
        due("the FILE", road.check(3), 3);
        road.feed(0, 0, 4, 1, 1);
        due("the STEP", road.check(1), 1);
        road.feed(0, 1, 4 + 256, 1, 1);
        due("the COIN", road.check(1), 2);
        road.feed(0, 1, 4, 1, 1);
        road.feed(8, 2, 0, 7, 3);
        road.feed(0, 7, 0, 0, 0);
        due("one too many", road.check(4), 9);
        road.feed(0, 0, 0, 0, 0);
        due("none of them", road.check(0), 0);
        due("the tape is empty", road.count(4), 0);
    }

    private static void count() {
        about("promise 32");
        StampRoad road = withClerks(3);
        road.step(1, 0);
        road.step(2, 0);
        road.file(1, 1, 1);
        road.value(4);
        road.entry(0, 3);
        road.entry(1, 3);
        road.go(1, 1, 0, 0);
        way(road, 1, "a1(1=1);w2(1=1)");
        law(road, "g1(1=1);g1(1=1);b1(1=1)");
        road.month();
        road.feed(0, 0, 0, 0, 0);
        int[] want = {1, 3, 2, 1, 20, 1, 2, 1, 1, 3, 0};
        for (int what = 0; what < want.length; what++) {
            due("count(" + what + ")", road.count(what), want[what]);
        }
        due("count(20)", road.count(20), 0);
        due("count(21)", road.count(21), 2);
        due("count(23)", road.count(23), -1);
        due("count(11)", road.count(11), -1);
        due("count(19)", road.count(19), -1);
        due("count(-1)", road.count(-1), -1);
        due("count(MAX)", road.count(Integer.MAX_VALUE), -1);
    }
}
