/** The edges of the tape, of TEXTS and their FAULTS, and of what they come to. */
final class TextEdges extends Edges {
    private static final String DIGITS = "0123456789";
    private static final String LETTERS = "rchmsfpinoyx";
    private static final String FACTOR = "[" + DIGITS + LETTERS;
    private static final String PIECE = "!(" + FACTOR;
    private static final String JOINS = "+-*/%";

    static void run() {
        feeds();
        ways();
        oneBehindTheOther();
        longTexts();
        laws();
        gains();
        clauses();
        whatMayStand();
        faults();
        depths();
        sums();
        conditions();
        bits();
        refusals();
        letters();
        picks();
    }

    private static void feeds() {
        promise(6, "Twenty bytes come behind the tape, the highest of each int first: how many it has;");
        StampRoad road = withClerks(1);
        int bytes = 'a' << 24 | '1' << 16 | '(' << 8 | '1';
        due("feed", road.feed(bytes, '=' << 24 | '1' << 16 | ')' << 8 | 200, 0x80000000, -1, 0x7fffffff), 20);
        due("feed", road.feed(0, 0, 0, 0, 0), 40);
        due("a1(1=1)", road.way(0, 7), 1);
        due("from the beginning again", road.feed(0, 0, 0, 0, 0), 20);
        promise(6, "NONE if that would be more than 200.");
        StampRoad full = withClerks(1);
        put(full, "a1(1=1)");
        for (int k = 2; k <= 10; k++) {
            due("feed", full.feed(0, 0, 0, 0, 0), 20 * k);
        }
        due("an 11th time", full.feed(-1, -1, -1, -1, -1), -1);
        due("the tape stays", full.count(4), 200);
        due("as it was", full.way(0, 7), 1);
        due("there is room again", full.feed(0, 0, 0, 0, 0), 20);
    }

    private static void ways() {
        promise(7, "THE WAY of CLERK i by the first n bytes of the tape (1 to 160; empty then),");
        StampRoad road = withClerks(2);
        put(road, "a1(1=1);w1(1=1);");
        due("7 of 20", road.way(0, 7), 1);
        due("empty then", road.count(4), 0);
        put(road, "a1(1=1);w1(1=1);");
        due("1 byte", road.way(0, 1), -1001);
        due("empty then", road.count(4), 0);
        promise(7, "in place of the one before: how many CLAUSES;");
        due("one", way(road, 1, "a5(1=1)"), 1);
        due("three", way(road, 1, "w1(1=1);w2(1=1);w3(1=1)"), 3);
        due("count(21)", road.count(21), 3);
        due("of him alone", road.count(20), 1);
        road.step(2, 0);
        road.file(1, 9, 9);
        due("the price of the one before", road.asks(1, 0, 0), 0);
        due("two", way(road, 1, "a5(1=1);a6(1=1)"), 2);
        due("the WAIT of the one before", road.asks(1, 0, 1), 0);
        promise(7, "a FAULT: -1000 times its number, less its place (the TEXT before stays);");
        due("1 at 0", way(road, 1, "1"), -1000);
        due("1 at 15", way(road, 1, "a5(1=1);a6(1=1),"), -1015);
        due("2 at 6", way(road, 1, "a123456"), -2006);
        due("the tape is empty", road.count(4), 0);
        due("the TEXT before", road.count(21), 2);
        due("the TEXT before", road.asks(1, 0, 0), 5);
        due("without a TEXT before", way(road, 0, "a1(1=1);b"), -1008);
        due("the TEXT of 7 bytes before", road.count(20), 1);
        promise(7, "NONE: no such ones,");
        put(road, "a1(1=1)");
        due("CLERK -1", road.way(-1, 7), -1);
        due("CLERK 2 of 2", road.way(2, 7), -1);
        due("CLERK 10", road.way(10, 7), -1);
        due("n 0", road.way(0, 0), -1);
        due("n -1", road.way(0, -1), -1);
        due("n least", road.way(0, Integer.MIN_VALUE), -1);
        due("the tape stays", road.count(4), 20);
        promise(7, "it has not so many (the tape stays).");
        due("21 of 20", road.way(0, 21), -1);
        due("160 of 20", road.way(0, 160), -1);
        due("n most", road.way(0, Integer.MAX_VALUE), -1);
        due("the tape stays", road.count(4), 20);
        due("7 of 20", road.way(0, 7), 1);
        due("1 of 0", road.way(0, 1), -1);
    }

    /** What was read before, right or wrong, deep or long, leaves nothing behind for what is read next. */
    private static void oneBehindTheOther() {
        about("TEXTS told one behind the other");
        StampRoad road = oneStep("a1(1=1)");
        road.file(1, 9, 9);
        String deep = "a[[[[[[7]]]]]](((((([0]=0))))))";
        for (int k = 0; k < 12; k++) {
            due("too deep", way(road, 0, deep), -5020);
            due("not closed", way(road, 0, "a[[[[[[7"), -1008);
            due("as deep as can be", way(road, 0, "a[[[[[[7]]]]]](!!!!!1=2)"), 1);
            due("five ! turn it five times", road.asks(0, 0, 0), 7);
        }
        for (int k = 0; k < 12; k++) {
            due("three", way(road, 0, "w1(1=1);w" + k + "(1=1);a3(1=1)"), 3);
            due("its price", road.asks(0, 0, 0), 3);
            due("one", way(road, 0, "w" + k + "(1=1)"), 1);
            due("no price of the ones before", road.asks(0, 0, 0), 0);
            due("its WAIT", road.asks(0, 0, 1), k);
        }
        // Where the third CLAUSE stood two TEXTS ago, the second one's E and C stand now.
        way(road, 0, "w1(1=1);w2(1=1);a3(1=1)");
        way(road, 0, "a9(1=1)");
        due("two", way(road, 0, "w1+1+1(1=1);w5(1=1)"), 2);
        due("no price of the third of before", road.asks(0, 0, 0), 0);
        StampRoad others = withClerks(2);
        others.step(3, 0);
        others.file(1, 9, 9);
        for (int k = 0; k < 12; k++) {
            way(others, 0, "a" + k + "(1=1)");
            law(others, "k" + 2 * k + "(1=1);g5(1=2)");
            gain(others, "i*2-" + k);
            way(others, 1, "a" + 3 * k + "(1=1);w4(1=1)");
            due("of CLERK 0", others.asks(0, 0, 0), k);
            due("of CLERK 1", others.asks(1, 0, 0), 3 * k);
            due("of THE LAW", others.told(0, 0, 0, 1), 2 * k);
            due("of GAIN", others.goesTo(0), k < 2 ? 2 : 0);
        }
    }

    /** So many bytes: one CLAUSE whose C goes on and on. */
    private static String ofBytes(int n, String head) {
        StringBuilder text = new StringBuilder(head).append(n % 2 == 0 ? "10" : "1").append("(1=1");
        while (text.length() < n - 1) {
            text.append("+0");
        }
        return text.append(')').toString();
    }

    private static void longTexts() {
        term("A TEXT: at most 160 bytes,");
        for (int n = 158; n <= 160; n++) {
            due("its length", ofBytes(n, "a").length(), n);
            due("a WAY of " + n, way(withClerks(1), 0, ofBytes(n, "a")), 1);
            due("a LAW of " + n, law(withClerks(1), ofBytes(n, "g")), 1);
        }
        StampRoad road = withClerks(1);
        put(road, ofBytes(161, "a"));
        due("a WAY of 161", road.way(0, 161), -1);
        due("a LAW of 161", road.law(161), -1);
        due("a WAY of 180", road.way(0, 180), -1);
        due("the tape stays", road.count(4), 180);
        due("160 of them: the end at 160", road.way(0, 160), -1160);
        term("no blanks:");
        due("ahead", way(road, 0, " a1(1=1)"), -1000);
        due("behind the letter", way(road, 0, "a 1(1=1)"), -1001);
        due("in a number", way(road, 0, "a1 1(1=1)"), -1002);
        due("ahead of =", way(road, 0, "a1(1 =1)"), -1004);
        due("at the end", way(road, 0, "a1(1=1) "), -1007);
        due("behind ;", way(road, 0, "a1(1=1); a1(1=1)"), -1008);
    }

    private static void laws() {
        promise(8, "THE LAW likewise.");
        StampRoad road = oneStep("a1(1=1)");
        road.file(1, 1, 1);
        put(road, "g1(1=1)");
        due("n 0", road.law(0), -1);
        due("n -1", road.law(-1), -1);
        due("21 of 20", road.law(21), -1);
        due("n most", road.law(Integer.MAX_VALUE), -1);
        due("the tape stays", road.count(4), 20);
        due("7 of 20", road.law(7), 1);
        due("empty then", road.count(4), 0);
        due("1 of 0", road.law(1), -1);
        due("1 byte", law(road, "g"), -1001);
        due("in place of the one before", law(road, "k2(1=1);b3(1=1)"), 2);
        due("how many CLAUSES", road.count(9), 2);
        due("g of the one before", road.told(0, 0, 1, 0), 0);
        due("a FAULT", law(road, "k2(1=1);w3(1=1)"), -1008);
        due("the tape is empty", road.count(4), 0);
        due("the TEXT before stays", road.told(0, 0, 1, 1), 2);
        due("no CLERKS", law(new StampRoad(), "g1(1=1)"), 1);
    }

    private static void gains() {
        promise(9, "GAIN by the first n bytes of the tape (1 to 60; empty then): 1;");
        StampRoad road = withClerks(1);
        due("1 byte", gain(road, "1"), 1);
        due("empty then", road.count(4), 0);
        due("he wants to", road.goesTo(0), 1);
        due("in place of the one before", gain(road, "0-1"), 1);
        due("he does not want to", road.goesTo(1), 0);
        promise(9, "a FAULT likewise;");
        due("1 at 0", gain(road, "+"), -1000);
        due("1 at the end", gain(road, "1+"), -1002);
        due("2", gain(road, "1+123456"), -2007);
        due("5", gain(road, "1+[[[[[[[1]]]]]]]"), -5008);
        due("a WAY is no GAIN", gain(road, "a1(1=1)"), -1000);
        due("the tape is empty", road.count(4), 0);
        due("the TEXT before stays", road.goesTo(1), 0);
        StampRoad none = withClerks(1);
        due("a FAULT first", gain(none, "1+"), -1002);
        due("no GAIN yet", none.rest(0), -1);
        promise(9, "NONE: no such n,");
        put(road, "1");
        due("n 0", road.gain(0), -1);
        due("n -1", road.gain(-1), -1);
        due("n least", road.gain(Integer.MIN_VALUE), -1);
        due("the tape stays", road.count(4), 20);
        promise(9, "it has not so many (the tape stays).");
        due("21 of 20", road.gain(21), -1);
        due("60 of 20", road.gain(60), -1);
        due("the tape stays", road.count(4), 20);
        due("1 of 20", road.gain(1), 1);
        due("1 of 0", road.gain(1), -1);
        term("60 bytes at most).");
        due("59 bytes", gain(road, "1" + "+1".repeat(29)), 1);
        due("60 bytes", gain(road, "10" + "+1".repeat(29)), 1);
        put(road, "1" + "+1".repeat(30));
        due("61 bytes", road.gain(61), -1);
        due("160 bytes", road.gain(160), -1);
        due("the tape stays", road.count(4), 80);
        due("60 of them: the end at 60", road.gain(60), -1060);
    }

    private static String twelve() {
        return "a1(1=1);".repeat(11) + "a1(1=1)";
    }

    private static void clauses() {
        term("CLAUSES (12 at most) with a ; (59) between two: a letter, E, and (C).");
        due("12", way(withClerks(1), 0, twelve()), 12);
        due("12 of THE LAW", law(withClerks(1), "g1(1=1);".repeat(11) + "b1(1=1)"), 12);
        due("no ; between two", way(withClerks(1), 0, "a1(1=1)w1(1=1)"), -1007);
        due("byte 58", way(withClerks(1), 0, "a1(1=1):w1(1=1)"), -1007);
        due("no letter", way(withClerks(1), 0, "1(1=1)"), -1000);
        due("no E", way(withClerks(1), 0, "a(1=1)"), -1001);
        due("no C", way(withClerks(1), 0, "a1;a1(1=1)"), -1002);
        due("an empty C", way(withClerks(1), 0, "a1()"), -1003);
        StampRoad last = oneStep("a1(1=2);".repeat(11) + "a7(1=1)");
        last.file(1, 9, 9);
        due("the 12th counts", last.asks(0, 0, 0), 7);
        term("4 a 13th CLAUSE, at its letter (if that can stand there);");
        due("a", way(withClerks(1), 0, twelve() + ";a"), -4096);
        due("w, and more", way(withClerks(1), 0, twelve() + ";w1(1=1)"), -4096);
        due("what is wrong behind it does not matter", way(withClerks(1), 0, twelve() + ";w)"), -4096);
        due("g can't stand there", way(withClerks(1), 0, twelve() + ";g1(1=1)"), -1096);
        due("the end can't", way(withClerks(1), 0, twelve() + ";"), -1096);
        due("b of THE LAW", law(withClerks(1), "g1(1=1);".repeat(12) + "b"), -4096);
        due("a of THE LAW", law(withClerks(1), "g1(1=1);".repeat(12) + "a"), -1096);
    }

    private static final int WAY = 0;
    private static final int LAW = 1;
    private static final int GAIN = 2;

    private static int read(int kind, String text) {
        StampRoad road = withClerks(1);
        return kind == WAY ? way(road, 0, text) : kind == LAW ? law(road, text) : gain(road, text);
    }

    /** Each of the 256 bytes behind a beginning: those that can't stand there, and perhaps the end, are FAULT 1. */
    private static void behind(int kind, String begin, String allowed, boolean mayEnd) {
        int at = begin.length();
        for (int b = 0; b < 256; b++) {
            boolean isFault = read(kind, begin + (char) b) == -1000 - at;
            due("byte " + b + " behind " + begin + " is a FAULT", isFault, allowed.indexOf(b) < 0);
        }
        if (at > 0) {
            int answer = read(kind, begin);
            due("the end behind " + begin, mayEnd ? Math.min(answer, 1) : answer, mayEnd ? 1 : -1000 - at);
        }
    }

    private static void whatMayStand() {
        term("1 what can't stand there (the end, too);");
        behind(WAY, "", "aw", false);
        behind(WAY, "ac(c=c);", "aw", false);
        behind(LAW, "", "gkb", false);
        behind(LAW, "gc(c=c);", "gkb", false);
        behind(GAIN, "", FACTOR, false);
        for (String begin : new String[] {"a", "w", "a1+", "a1-", "a1*", "a1/", "a1%", "a[", "ac(c<", "ac(c>", "ac(c="}) {
            behind(WAY, begin, FACTOR, false);
        }
        for (String begin : new String[] {"ac(", "ac(!", "ac((", "ac(c=c&", "ac(c=c|", "ac((c=c)&"}) {
            behind(WAY, begin, PIECE, false);
        }
        behind(WAY, "a1", DIGITS + JOINS + "(", false);
        behind(WAY, "ac", JOINS + "(", false);
        behind(WAY, "a[c]", JOINS + "(", false);
        behind(WAY, "a[c", JOINS + "]", false);
        behind(WAY, "ac(c", JOINS + "<>=", false);
        behind(WAY, "ac([c]", JOINS + "<>=", false);
        behind(WAY, "ac(c=c", JOINS + "&|)", false);
        behind(WAY, "ac(!c=c", JOINS + "&|)", false);
        behind(WAY, "ac((c=c", JOINS + "&|)", false);
        behind(WAY, "ac((c=c)", "&|)", false);
        behind(WAY, "ac(!(c=c)", "&|)", false);
        behind(WAY, "ac(c=c)", ";", true);
        behind(LAW, "gc(c=c)", ";", true);
        behind(GAIN, "o", JOINS, true);
        behind(GAIN, "1", DIGITS + JOINS, true);
        behind(GAIN, "[o", JOINS + "]", false);
        behind(GAIN, "[o]", JOINS, true);
        behind(GAIN, "o+", FACTOR, false);
    }

    private static void faults() {
        term("2 a sixth digit, at it;");
        due("at 6", read(WAY, "a123456(1=1)"), -2006);
        due("zeros count", read(WAY, "a000000(1=1)"), -2006);
        due("in a C", read(WAY, "a1(1=1234567)"), -2010);
        due("in a bracket", read(WAY, "a[123456"), -2007);
        due("of the second number", read(WAY, "a12345+123456"), -2012);
        due("in GAIN", read(GAIN, "123456"), -2005);
        due("the end behind five", read(WAY, "a12345"), -1006);
        term("FAULTS, the first from the left:");
        due("2 ahead of 1", read(WAY, "a123456(z"), -2006);
        due("1 ahead of 2", read(WAY, "az(1=123456)"), -1001);
        due("5 ahead of 2", read(WAY, "a[[[[[[[123456"), -5007);
        due("2 ahead of 5", read(WAY, "a123456+[[[[[[["), -2006);
        due("1 ahead of 4", read(WAY, twelve() + ",a1(1=1)"), -1095);
        due("5 ahead of 4", read(WAY, "a1(((((((" + twelve()), -5008);
        due("4 ahead of 1", read(WAY, twelve() + ";az"), -4096);
    }

    private static void depths() {
        term("5 a seventh of ( [ ! that are open in one another, at it");
        due("six [", read(WAY, "a[[[[[[1]]]]]](1=1)"), 1);
        due("a seventh [", read(WAY, "a[[[[[[[1]]]]]]](1=1)"), -5007);
        due("closed ones are not open", read(WAY, "a[[[[[[1]]]]]]+[[[[[[1]]]]]]+[1]*[1](1=1)"), 1);
        due("a seventh behind closed ones", read(WAY, "a[[[[[[1]]]]]+[[[[[[1"), -5019);
        due("six [ of GAIN", read(GAIN, "[[[[[[1]]]]]]"), 1);
        due("a seventh [ of GAIN", read(GAIN, "[[[[[[[1]]]]]]]"), -5006);
        term("(the ( of the CLAUSE counts;");
        due("six (", read(WAY, "a1((((((1=1))))))"), 1);
        due("a seventh (", read(WAY, "a1(((((((1=1)))))))"), -5008);
        due("five [ in the C", read(WAY, "a1([[[[[1]]]]]=[[[[[1]]]]])"), 1);
        due("six [ in the C", read(WAY, "a1([[[[[[1]]]]]]=1)"), -5008);
        due("six [ on the right", read(WAY, "a1(1=[[[[[[1]]]]]])"), -5010);
        due("(, ! and [ together", read(WAY, "a1(!(!([1]=1)))"), 1);
        due("a seventh of them: [", read(WAY, "a1(!(!([[1]]=1)))"), -5008);
        due("a seventh of them: !", read(WAY, "a1(!(!(!!1=1)))"), -5008);
        due("a seventh of them: (", read(WAY, "a1(!(!((("), -5008);
        due("each CLAUSE anew", read(WAY, "a1((((((1=1))))));w1((((((1=1))))))"), 2);
        due("where ( can't stand", read(WAY, "a1((((((1=("), -1010);
        due("where [ can't stand", read(WAY, "a1((((((1["), -1009);
        due("where ! can't stand", read(WAY, "a[[[[[[!"), -1007);
        term("a ! is open till its PIECE ends;");
        due("five !", read(WAY, "a1(!!!!!1=1)"), 1);
        due("six !", read(WAY, "a1(!!!!!!1=1)"), -5008);
        due("behind & anew", read(WAY, "a1(!!!!!1=1&!!!!!1=1)"), 1);
        due("behind | anew", read(WAY, "a1(!!!!!1=1|(((((1=1))))))"), 1);
        due("over the right E, too", read(WAY, "a1(!!!!!1=[1])"), -5010);
        due("over the left E", read(WAY, "a1(!!!!![1]=1)"), -5008);
        due("over its bracket", read(WAY, "a1(!((((1=1&(1=1))))))"), -5012);
        due("not behind its bracket", read(WAY, "a1(!(1=1)&((((([1"), -5015);
        due("not behind its bracket", read(WAY, "a1(!(1=1)&(((((1=1))))))"), 1);
        term("the E of the CLAUSE stands ahead of it).");
        due("six [ and then six (", read(WAY, "a[[[[[[1]]]]]]((((((1=1))))))"), 1);
        due("a seventh (", read(WAY, "a[[[[[[1]]]]]](((((((1=1)))))))"), -5020);
    }

    private static void sums() {
        term("E: TERMS with + or - between two; a TERM: FACTORS with one of * / % between two; from the left on;");
        worth("9-3-2", 4);
        worth("9-3+2", 8);
        worth("100/10/5", 2);
        worth("100/10*5", 50);
        worth("7*5%3", 2);
        worth("7%5*3", 6);
        worth("2+3*4-1", 13);
        worth("20-6/4*3%2", 19);
        term("a FACTOR: [E], a number of one to five digits, or a letter:");
        worth("[[7]]", 7);
        worth("2*[3+4]", 14);
        worth("0", 0);
        worth("00007", 7);
        worth("9999", 9999);
        worth("99999/10", 9999);
        worth("c", 500);
    }

    private static void conditions() {
        term("C: PARTS with a | between two, one of which must hold;");
        holds("1=2|1=1", true);
        holds("1=1|1=2", true);
        holds("1=2|1=3", false);
        holds("1=2|1=3|1=1", true);
        term("a PART: PIECES with an & between two, all of which must;");
        holds("1=1&2=2", true);
        holds("1=1&2=2&1=2", false);
        holds("1=2&2=2", false);
        holds("1=1|1=1&1=2", true);
        holds("1=2&1=1|1=1", true);
        holds("1=2|1=1&1=2", false);
        term("a PIECE: !PIECE, (C), or E, one of < > =, and E.");
        holds("!1=2", true);
        holds("!1=1", false);
        holds("!!1=1", true);
        holds("!1=1|1=1", true);
        holds("!(1=1&1=2)", true);
        holds("(1=2|1=1)&(1=1|1=2)", true);
        holds("1<2", true);
        holds("2<2", false);
        holds("2>1", true);
        holds("2>2", false);
        holds("2=2", true);
        holds("2=3", false);
        holds("1+1=4/2", true);
        holds("!1<2", false);
        holds("!2<1", true);
        holds("!2>1", false);
        holds("!1>2", true);
        holds("!!1<2", true);
        about("a C as long as a TEXT can be");
        holds("1=1&".repeat(38) + "1=1", true);
        holds("1=1&".repeat(38) + "1=2", false);
        holds("1=2|".repeat(38) + "1=1", true);
        holds("1=2|".repeat(38) + "1=2", false);
        holds("1=1&1=2|".repeat(19) + "1=1", true);
        about("as many as can be wait for what is behind them");
        worth("1+1*[1+1*[1+1*[1+1*[1+1*[1+1*[1+1*1]]]]]]", 8);
        holds("1+1*[1+1*[1+1*[1+1*[1+1*[1+1*1]]]]]=1+1*[1+1*[1+1*[1+1*[1+1*[1+1*1]]]]]", true);
    }

    private static void bits() {
        term("All is reckoned with 32 bits, as the machine does;");
        holds("32767*65536+65535>0", true);
        holds("32767*65536+65535+1<0", true);
        holds("32768*65536<0", true);
        holds("32768*65536-1>0", true);
        holds("65536*65536=0", true);
        worth("99999*99999%10000", 5409);
        worth("32768*65536/[0-1]%10000+4000", 352);
        holds("32768*65536/[0-1]=32768*65536", true);
        holds("32768*65536%[0-1]=0", true);
        holds("0-32768*65536=32768*65536", true);
        worth("[0-7]/2+10", 7);
        worth("7/[0-2]+10", 7);
        worth("[0-7]%3+10", 9);
        worth("7%[0-3]", 1);
        StampRoad road = withClerks(1);
        gain(road, "32767*65536+65535+1");
        due("GAIN wraps around to below 0", road.goesTo(1), 0);
        gain(road, "32768*65536-1");
        due("GAIN wraps around to above 0", road.goesTo(0), 1);
    }

    private static void refusals() {
        term("what is divided by 0 is REFUSED:");
        worth("7+1/0", 0);
        worth("7+1%0", 0);
        worth("7+0/0", 0);
        worth("7+0%0", 0);
        worth("7+1/[5-5]", 0);
        worth("7+1/x", 0);
        worth("7+0/5", 7);
        worth("7+0*[1/0]", 0);
        term("then a C does not hold,");
        holds("1/0=0", false);
        holds("1%0<1", false);
        holds("1/0>0-1", false);
        holds("1=1/0", false);
        holds("!1/0=0", false);
        holds("!(1/0=0)", false);
        holds("!!1/0=0", false);
        holds("1/0=0|1=1", false);
        holds("(1/0=0)|1=1", false);
        holds("1=1&1/0=0|1=1", false);
        StampRoad road = oneStep("a3(1/0=0);a4(1=1);w3(1%0=0)");
        road.file(1, 9, 9);
        due("the next CLAUSE", road.asks(0, 0, 0), 4);
        due("none of w", road.asks(0, 0, 1), 0);
        term("an E of a CLAUSE or of GAIN is 0.");
        due("a, w", way(road, 0, "a5+1/0(1=1);a9(1=1);w5+1/0(1=1);w9(1=1)"), 4);
        due("the price", road.asks(0, 0, 0), 0);
        due("the WAIT", road.asks(0, 0, 1), 0);
        due("g, k, b", law(road, "g5+1/0(1=1);g9(1=1);k1%0(1=1);k9(1=1);b1/x(1=1);b9(1=1)"), 6);
        due("g", road.told(0, 0, 1, 0), 0);
        due("k", road.told(0, 0, 1, 1), 0);
        due("b, x is 0", road.told(0, 0, 0, 2), 0);
        due("b, x is 1", road.told(0, 0, 1, 2), 1);
        due("GAIN", gain(road, "5+1/o"), 1);
        due("0: who does not take does not want to", road.rest(0), 1);
        due("0: who takes does not want otherwise", road.rest(1), 1);
        term("Of a C as much is asked, from the left, as matters.");
        holds("1=1|1/0=0", true);
        holds("1=2&1/0=0|1=1", true);
        holds("1=1&1=1|1/0=0", true);
        holds("(1=1|1/0=0)&1=1", true);
        holds("!(1=2&1/0=0)", true);
        holds("!(1=1|1/0=0)|1=1", true);
        holds("1=2|1=1|1/0=0", true);
        holds("1=1&1=2&1/0=0|1=1", true);
        holds("1=1|1=1|1/0=0", true);
        holds("1=1|(1/0=0&1=1)|1/0=0", true);
        holds("1=2|1/0=0", false);
        holds("1=1&1/0=0", false);
    }

    private static void letters() {
        term("r RIGHT,");
        due("RIGHT", asked("r", 1, 9, 9), 1);
        due("no RIGHT", asked("r", 0, 9, 9), 0);
        term("c COIN (in THE LAW ahead of giving),");
        due("COIN 10000", asked("c", 0, 10000, 9), 10000);
        due("COIN 0", asked("c", 0, 0, 9), 0);
        StampRoad rich = withClerks(1);
        rich.step(1, 0);
        rich.step(1, 0);
        way(rich, 0, "a4(s=0);ac-10000(s=1)");
        law(rich, "bc(1=1)");
        rich.file(0, 10000, 0);
        due("if 4 were given", rich.told(0, 0, 4, 2), 10000);
        rich.month();
        due("COIN, of which c was had back", rich.fileIs(0, 1), 19996);
        due("c above 10000", rich.asks(0, 0, 0), 9996);
        term("h HASTE of the FILE,");
        due("HASTE 200", asked("h", 0, 9, 200), 200);
        due("HASTE 0", asked("h", 0, 9, 0), 0);
        term("m for how many MONTHS it stands at its STEP,");
        StampRoad waits = withClerks(1);
        waits.step(1, 0);
        waits.step(1, 0);
        way(waits, 0, "am(1=1);w3(1=1)");
        waits.file(1, 9, 0);
        for (int y = 0; y < 4; y++) {
            due("m at STEP 0", waits.asks(0, 0, 0), y);
            waits.month();
        }
        due("m at STEP 1", waits.asks(0, 0, 0), 0);
        waits.month();
        due("m at STEP 1", waits.asks(0, 0, 0), 1);
        term("s the STEP,");
        way(waits, 0, "as*5(1=1)");
        due("STEP 1", waits.asks(0, 0, 0), 5);
        due("STEP 0", asked("s", 0, 9, 9), 0);
        term("f FEAR, p PAY, i the number of the CLERK,");
        StampRoad ten = new StampRoad();
        for (int i = 0; i < 10; i++) {
            ten.clerk(991 + i, 91 + i);
        }
        ten.step(1023, 0);
        ten.file(0, 9, 9);
        due("FEAR 100", way(ten, 9, "af(1=1)") + ten.asks(9, 0, 0), 101);
        due("PAY 1000", way(ten, 9, "ap(1=1)") + ten.asks(9, 0, 0), 1001);
        due("CLERK 9", way(ten, 9, "ai(1=1)") + ten.asks(9, 0, 0), 10);
        due("CLERK 0", way(ten, 0, "ai(1=1)") + ten.asks(0, 0, 0), 1);
        crowds();
        term("y the MONTH,");
        due("MONTH 0", asked("y", 0, 9, 9), 0);
        StampRoad late = oneStep("ay(1=1)");
        months(late, 239);
        late.file(0, 9, 9);
        due("MONTH 239", late.asks(0, 0, 0), 239);
        term("x the price (0 in a WAY).");
        due("in a WAY", asked("x", 1, 9, 9), 0);
        due("in THE LAW", law(late, "gx(1=1)"), 1);
        due("x 10000", late.told(0, 0, 10000, 0), 10000);
        due("x 0", late.told(0, 0, 0, 0), 0);
        due("in a WAY again", late.asks(0, 0, 0), 239);
        due("in a WAY again", way(late, 0, "ax+1(1=1)") + late.asks(0, 0, 0), 2);
    }

    private static int asked(String letter, int right, int coin, int haste) {
        StampRoad road = oneStep("a" + letter + "(1=1)");
        road.file(right, coin, haste);
        return road.asks(0, 0, 0);
    }

    private static void crowds() {
        term("n how many FILES stand at the STEP,");
        StampRoad road = withClerks(2);
        road.step(1, 0);
        road.step(2, 0);
        way(road, 0, "w2(r=0)");
        way(road, 1, "an(1=1);wn-1(1=1)");
        for (int j = 0; j < 5; j++) {
            road.file(j % 2, 0, 0);
        }
        months(road, 1);
        due("two of five", road.asks(1, 1, 0), 2);
        due("two of five", road.asks(1, 3, 1), 1);
        due("three of five", way(road, 0, "an(1=1);w9(1=1)") + road.asks(0, 0, 0), 5);
        months(road, 1);
        due("none of them is DONE", road.fileIs(1, 2), 1);
        way(road, 1, "w0(1=1)");
        months(road, 1);
        due("two are DONE, three stand", road.asks(0, 4, 0), 3);
        StampRoad full = oneStep("an(1=1)");
        for (int j = 0; j < 40; j++) {
            full.file(1, 0, 0);
        }
        due("all 40", full.asks(0, 39, 0), 40);
        term("o how many CLERKS took in the MONTH before,");
        StampRoad took = withClerks(3);
        took.step(1, 0);
        took.step(2, 0);
        way(took, 0, "a1(1=1)");
        way(took, 1, "ao+1(1=1)");
        way(took, 2, "a1(1=1)");
        took.file(0, 99, 0);
        took.file(0, 99, 0);
        due("MONTH 0", took.asks(0, 0, 0), 1);
        due("two take part, one takes", took.month(), 2);
        due("one, though twice", took.asks(1, 0, 0), 2);
        took.file(0, 99, 0);
        due("the MONTH before, not this one", took.month(), 2 + 2 + 1);
        took.file(0, 99, 0);
        due("two", took.asks(1, 2, 0), 3);
        due("two", took.month(), 3 + 1);
        due("two again", took.month(), 3);
        due("one", took.count(10), 1);
        due("nobody", took.month() + took.count(10), 0);
    }

    /** What a letter of THE LAW comes to if nothing is given. */
    private static int byLaw(String text, int what) {
        StampRoad road = oneStep("a1(1=1)");
        road.file(1, 9, 9);
        due(text, law(road, text) > 0, true);
        return road.told(0, 0, 0, what);
    }

    private static int byWay(String text, int what) {
        StampRoad road = oneStep(text);
        road.file(1, 9, 9);
        return road.asks(0, 0, what);
    }

    private static void picks() {
        term("A WAY of a CLERK: letters a, w: of the first CLAUSE of a letter whose C holds the E:");
        due("the first of two", byWay("a3(1=1);a4(1=1)", 0), 3);
        due("the first that holds", byWay("a3(1=2);a4(1=1)", 0), 4);
        due("of its letter", byWay("a3(1=1);w4(1=1)", 1), 4);
        due("the letters do not hide one another", byWay("w4(1=1);a3(1=1);w5(1=1)", 0), 3);
        term("a the price that he asks (below 0: 0, above 10000: 10000; none: 0),");
        due("below 0", byWay("a0-1(1=1)", 0), 0);
        due("0", byWay("a0(1=1)", 0), 0);
        due("10000", byWay("a10000(1=1)", 0), 10000);
        due("above 10000", byWay("a10001(1=1)", 0), 10000);
        due("the least of all", byWay("a32768*65536(1=1)", 0), 0);
        due("the greatest of all", byWay("a32768*65536-1(1=1)", 0), 10000);
        due("none", byWay("w5(1=1)", 0), 0);
        due("none that holds", byWay("a5(1=2)", 0), 0);
        due("below 0 is the first that holds", byWay("a0-1(1=1);a5(1=1)", 0), 0);
        term("w how many MONTHS one waits with him (below 0: 0; above 24: 24; none: 0).");
        due("below 0", byWay("w0-1(1=1)", 1), 0);
        due("24", byWay("w24(1=1)", 1), 24);
        due("above 24", byWay("w25(1=1)", 1), 24);
        due("23", byWay("w23(1=1)", 1), 23);
        due("none", byWay("a5(1=1)", 1), 0);
        due("no WAY", noWay(), 0);
        term("THE LAW: letters g, k, b (likewise, 0 to 10000):");
        String[] heads = {"g", "k", "b"};
        for (int what = 0; what < 3; what++) {
            String head = heads[what];
            due(head + " below 0", byLaw(head + "0-1(1=1)", what), 0);
            due(head + " 10000", byLaw(head + "10000(1=1)", what), 10000);
            due(head + " above 10000", byLaw(head + "10001(1=1)", what), 10000);
            due(head + " none that holds", byLaw(head + "5(1=2)", what), 0);
            due(head + " the first that holds", byLaw(head + "5(1=2);" + head + "6(1=1);" + head + "7(1=1)", what), 6);
            due(head + " of others none", byLaw(heads[(what + 1) % 3] + "5(1=1)", what), 0);
        }
    }

    private static int noWay() {
        StampRoad road = withClerks(1);
        road.step(1, 0);
        road.file(1, 9, 9);
        return road.asks(0, 0, 0) + road.asks(0, 0, 1);
    }
}
