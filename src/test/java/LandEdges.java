/** The edges of what is told of the land and of what is asked of it: CLERKS, STEPS, FILES, THE SEED, the counts. */
final class LandEdges extends Edges {
    private static final int LEAST = Integer.MIN_VALUE;
    private static final int MOST = Integer.MAX_VALUE;

    static void run() {
        newObject();
        clerks();
        steps();
        shapes();
        seeds();
        files();
        fileIs();
        clerkIs();
        check();
        count();
    }

    private static void newObject() {
        promise(1, "MONTH 0; no CLERKS, STEPS, FILES, TEXTS;");
        StampRoad road = new StampRoad();
        int[] zeros = {0, 1, 2, 3, 4, 5, 6, 7, 9, 10};
        for (int what : zeros) {
            due("count(" + what + ")", road.count(what), 0);
        }
        for (int what = 20; what < 30; what++) {
            due("count(" + what + ")", road.count(what), -1);
        }
        due("no CLERK", road.clerkIs(0, 0), NOT_A_CLERK);
        due("no STEP", road.made(0, 0), -1);
        due("no FILE", road.fileIs(0, 0), -1);
        due("no GAIN", road.rest(0), -1);
        promise(1, "THE SEED 1.");
        due("count(8)", road.count(8), 1);
        term("NOW is one of them (0 at first).");
        due("count(0)", new StampRoad().count(0), 0);
        term("The constants: NONE = -1: There is none.");
        due("NONE", StampRoad.NONE, -1);
        term("All memory is the land's own.");
        StampRoad other = withClerks(2);
        other.step(3, 0);
        other.file(1, 5, 5);
        other.value(7);
        other.seed(9);
        gain(other, "1");
        way(other, 0, "a1(1=1)");
        law(other, "g1(1=1)");
        other.feed(1, 2, 3, 4, 5);
        other.month();
        for (int what : zeros) {
            due("count(" + what + ") of another land", road.count(what), 0);
        }
        due("count(8) of another land", road.count(8), 1);
        due("rest(0) of another land", road.rest(0), -1);
    }

    private static void clerks() {
        term("CLERKS 0 to 9: PAY (0 to 1000), FEAR (0 to 100).");
        StampRoad road = new StampRoad();
        due("PAY 0, FEAR 0", road.clerk(0, 0), 0);
        due("PAY 1000, FEAR 100", road.clerk(1000, 100), 1);
        due("PAY", road.clerkIs(1, 2), 1000);
        due("FEAR", road.clerkIs(1, 3), 100);
        promise(2, "A CLERK: the number; NONE: no such ones,");
        due("PAY -1", road.clerk(-1, 0), -1);
        due("PAY 1001", road.clerk(1001, 0), -1);
        due("FEAR -1", road.clerk(0, -1), -1);
        due("FEAR 101", road.clerk(0, 101), -1);
        due("PAY least", road.clerk(LEAST, 0), -1);
        due("FEAR most", road.clerk(0, MOST), -1);
        due("how many", road.count(1), 2);
        promise(2, "10 are there.");
        for (int i = 2; i < 10; i++) {
            due("CLERK " + i, road.clerk(i, i), i);
        }
        due("an 11th", road.clerk(0, 0), -1);
        due("how many", road.count(1), 10);
        due("the last one's PAY", road.clerkIs(9, 2), 9);
        due("no 11th", road.clerkIs(10, 2), NOT_A_CLERK);
    }

    private static void steps() {
        term("THE ROAD: STEPS 0 to 7, told one behind the other: a set of CLERKS (one at least), a SHAPE:");
        promise(3, "A STEP: its number; NONE: no such ones,");
        due("no CLERK is", new StampRoad().step(1, 0), -1);
        StampRoad road = withClerks(3);
        due("an empty set", road.step(0, 0), -1);
        due("CLERK 3 of 3", road.step(8, 0), -1);
        due("CLERK 3 beside 0", road.step(9, 0), -1);
        due("set -1", road.step(-1, 0), -1);
        due("set least", road.step(LEAST, 0), -1);
        due("set most", road.step(MOST, 0), -1);
        due("SHAPE -1", road.step(1, -1), -1);
        due("SHAPE 3", road.step(1, 3), -1);
        due("how many", road.count(2), 0);
        promise(3, "8 are there,");
        for (int s = 0; s < 8; s++) {
            due("STEP " + s, road.step(7, s % 3), s);
        }
        due("a ninth", road.step(1, 0), -1);
        due("how many", road.count(2), 8);
        promise(3, "a FILE is.");
        StampRoad begun = withClerks(1);
        due("STEP 0", begun.step(1, 0), 0);
        due("a FILE that is refused", begun.file(2, 0, 0), -1);
        due("STEP 1", begun.step(1, 0), 1);
        due("a FILE", begun.file(1, 0, 0), 0);
        due("STEP 2", begun.step(1, 0), -1);
        months(begun, 2);
        due("it is DONE", begun.fileIs(0, 0), 2);
        due("STEP 2, all the same", begun.step(1, 0), -1);
        StampRoad ten = withClerks(10);
        due("all ten", ten.step(1023, 0), 0);
        due("an 11th", ten.step(1024, 0), -1);
    }

    /** Who of three CLERKS takes 5 from a FILE at a STEP of that SHAPE. */
    private static int taker(int shape, String first, String second, String third) {
        StampRoad road = withClerks(4);
        road.step(14, shape);
        way(road, 1, first);
        way(road, 2, second);
        way(road, 3, third);
        road.file(0, 100, 0);
        road.month();
        for (int i = 0; i < 4; i++) {
            if (road.clerkIs(i, 1) > 0) {
                return i;
            }
        }
        return -1;
    }

    private static void shapes() {
        term("0 ONE (the lowest of them serves),");
        due("the lowest, not the cheapest", taker(0, "a9(1=1)", "a5(1=1)", "a4(1=1)"), 1);
        due("the lowest asks nothing", taker(0, "a0(1=1)", "a5(1=1)", "a4(1=1)"), -1);
        term("1 ANY (he whose price is least,");
        due("the first", taker(1, "a4(1=1)", "a5(1=1)", "a6(1=1)"), 1);
        due("the last", taker(1, "a6(1=1)", "a5(1=1)", "a4(1=1);w24(1=1)"), 3);
        term("not asking is 0;");
        due("without a CLAUSE a", taker(1, "a4(1=1)", "w24(1=1)", "a5(1=1)"), -1);
        due("no C holds", taker(1, "a4(1=1)", "a3(1=2)", "a5(1=1)"), -1);
        term("of like ones he with whom one waits least,");
        due("the second", taker(1, "a4(1=1);w2(1=1)", "a4(1=1);w1(1=1)", "a4(1=1);w2(1=1)"), 2);
        due("waits not at all", taker(1, "a4(1=1);w2(1=1)", "a4(1=1);w1(1=1)", "a4(1=1)"), 3);
        term("then the lowest),");
        due("of the last two", taker(1, "a4(1=1);w3(1=1)", "a4(1=1);w2(1=1)", "a4(1=1);w2(1=1)"), 2);
        due("of all", taker(1, "a4(1=1)", "a4(1=1)", "a4(1=1)"), 1);
        about("ANY, among all ten");
        for (int cheap = 0; cheap < 10; cheap++) {
            StampRoad road = withClerks(10);
            road.step(1023, 1);
            for (int i = 0; i < 10; i++) {
                way(road, i, i == cheap ? "a1(1=1)" : "a2(1=1)");
            }
            road.file(0, 9, 0);
            due("price", road.month(), 1);
            due("CLERK " + cheap, road.clerkIs(cheap, 1), 1);
        }
        term("2 LOT.");
        due("X 39022, modulo 3 1", taker(2, "a4(1=1)", "a4(1=1)", "a4(1=1)"), 2);
    }

    private static void seeds() {
        promise(4, "THE SEED (0 to 65535): true;");
        StampRoad road = new StampRoad();
        due("seed(0)", road.seed(0), true);
        due("X", road.count(8), 0);
        due("seed(65535)", road.seed(65535), true);
        due("X", road.count(8), 65535);
        promise(4, "false: no such number.");
        due("seed(-1)", road.seed(-1), false);
        due("seed(65536)", road.seed(65536), false);
        due("seed least", road.seed(LEAST), false);
        due("seed most", road.seed(MOST), false);
        due("X", road.count(8), 65535);
    }

    private static void files() {
        term("FILES 0 to 39, told at NOW: RIGHT (1, 0), COIN (0 to 10000), HASTE (0 to 200): each stands at STEP 0.");
        StampRoad road = oneStep("w24(1=1)");
        due("0, 0, 0", road.file(0, 0, 0), 0);
        road.month();
        due("1, 10000, 200", road.file(1, 10000, 200), 1);
        due("came", road.fileIs(0, 6), 0);
        due("came", road.fileIs(1, 6), 1);
        due("STEP", road.fileIs(1, 0), 0);
        due("m", road.fileIs(1, 2), 0);
        due("COIN", road.fileIs(1, 1), 10000);
        promise(5, "A FILE: its number; NONE: no such ones,");
        due("RIGHT -1", road.file(-1, 0, 0), -1);
        due("RIGHT 2", road.file(2, 0, 0), -1);
        due("COIN -1", road.file(0, -1, 0), -1);
        due("COIN 10001", road.file(0, 10001, 0), -1);
        due("HASTE -1", road.file(0, 0, -1), -1);
        due("HASTE 201", road.file(0, 0, 201), -1);
        due("COIN least", road.file(0, LEAST, 0), -1);
        due("HASTE most", road.file(0, 0, MOST), -1);
        due("how many", road.count(3), 2);
        promise(5, "40 are there,");
        for (int j = 2; j < 40; j++) {
            due("FILE " + j, road.file(1, j, 0), j);
        }
        due("a 41st", road.file(1, 0, 0), -1);
        due("how many", road.count(3), 40);
        due("the last one's COIN", road.fileIs(39, 1), 39);
        due("no 41st", road.fileIs(40, 1), -1);
        StampRoad quick = oneStep("a1(1=1)");
        for (int j = 0; j < 40; j++) {
            quick.file(0, 1, 0);
        }
        due("all of them PAY", quick.month(), 40);
        due("a 41st, all are DONE", quick.file(1, 0, 0), -1);
        promise(5, "no STEP is.");
        StampRoad roadless = withClerks(1);
        due("no STEP", roadless.file(1, 0, 0), -1);
        roadless.step(1, 0);
        due("a STEP", roadless.file(1, 0, 0), 0);
        term("It is DONE when it is behind the last STEP.");
        StampRoad longest = withClerks(1);
        for (int s = 0; s < 8; s++) {
            longest.step(1, 0);
        }
        longest.file(0, 0, 0);
        months(longest, 7);
        due("at STEP 7", longest.fileIs(0, 0), 7);
        due("not yet", longest.fileIs(0, 5), -1);
        due("asked at STEP 7", longest.asks(0, 0, 0), 0);
        longest.month();
        due("behind it", longest.fileIs(0, 0), 8);
        due("DONE", longest.fileIs(0, 5), 7);
        due("not asked", longest.asks(0, 0, 0), -1);
        longest.month();
        due("it stays there", longest.fileIs(0, 0), 8);
    }

    private static void fileIs() {
        StampRoad road = withClerks(1);
        road.step(1, 0);
        road.step(1, 0);
        way(road, 0, "a30(s=0);w3(s=1)");
        law(road, "b7(c=100);g2(1=1)");
        months(road, 3);
        road.file(0, 100, 9);
        promise(11, "Of FILE j, what 0 its STEP, 1 COIN, 2 m, 3 all that it PAID, 4 how often it was TOLD,");
        due("PAID nothing yet", road.fileIs(0, 3), 0);
        due("TOLD never yet", road.fileIs(0, 4), 0);
        road.month();
        months(road, 2);
        int[] want = {1, 75, 2, 30, 1};
        for (int what = 0; what < want.length; what++) {
            due("fileIs(0, " + what + ")", road.fileIs(0, what), want[what]);
        }
        promise(11, "5 the MONTH in which it was DONE (NONE: not),");
        due("not", road.fileIs(0, 5), -1);
        months(road, 2);
        due("DONE", road.fileIs(0, 5), 7);
        due("STEP", road.fileIs(0, 0), 2);
        road.month();
        due("DONE, later", road.fileIs(0, 5), 7);
        due("DONE in MONTH 0", doneAtOnce(), 0);
        promise(11, "6 the one in which it came.");
        due("came", road.fileIs(0, 6), 3);
        promise(11, "NONE for others.");
        due("what -1", road.fileIs(0, -1), -1);
        due("what 7", road.fileIs(0, 7), -1);
        due("FILE 1 of 1", road.fileIs(1, 0), -1);
        due("FILE -1", road.fileIs(-1, 0), -1);
        due("FILE most", road.fileIs(MOST, 1), -1);
        due("FILE least", road.fileIs(LEAST, 1), -1);
    }

    private static int doneAtOnce() {
        StampRoad road = oneStep("w0(1=1)");
        road.file(1, 0, 0);
        road.month();
        return road.fileIs(0, 5);
    }

    private static void clerkIs() {
        promise(12, "Of CLERK i, what 0 what he HAS by it (below 0, too),");
        StampRoad road = oneStep("a3(1=1)");
        law(road, "b10000(1=1);k10000(1=1)");
        due("nothing yet", road.clerkIs(0, 0), 0);
        road.file(0, 9, 0);
        road.file(0, 3, 0);
        road.month();
        due("HAS", road.clerkIs(0, 0), 2 * (3 - 20000));
        promise(12, "1 how often he TOOK, 2 PAY, 3 FEAR.");
        due("TOOK", road.clerkIs(0, 1), 2);
        StampRoad two = withClerks(2);
        due("PAY", two.clerkIs(1, 2), 100);
        due("FEAR", two.clerkIs(1, 3), 10);
        promise(12, "-1000000000 for others.");
        due("what -1", road.clerkIs(0, -1), NOT_A_CLERK);
        due("what 4", road.clerkIs(0, 4), NOT_A_CLERK);
        due("CLERK 1 of 1", road.clerkIs(1, 0), NOT_A_CLERK);
        due("CLERK -1", road.clerkIs(-1, 0), NOT_A_CLERK);
        due("CLERK most", road.clerkIs(MOST, 3), NOT_A_CLERK);
    }

    private static StampRoad threeFiles() {
        StampRoad road = oneStep("a5(c=9)");
        road.file(0, 9, 0);
        road.file(0, 8, 0);
        road.month();
        road.file(0, 10000, 0);
        return road;
    }

    /** What check(n) answers to threeFiles by these numbers. */
    private static int checked(int n, int... numbers) {
        StampRoad road = threeFiles();
        int[] all = new int[(numbers.length + 4) / 5 * 5];
        System.arraycopy(numbers, 0, all, 0, numbers.length);
        for (int k = 0; k < all.length; k += 5) {
            road.feed(all[k], all[k + 1], all[k + 2], all[k + 3], all[k + 4]);
        }
        int answer = road.check(n);
        due("the tape", road.count(4), answer == -2 ? 4 * all.length : 0);
        return answer;
    }

    private static void check() {
        term("CHECK: threes of numbers: a FILE, its STEP (how many STEPS there are: DONE), its COIN: all, by numbers: right,"
            + " or the first number that is not so.");
        promise(31, "CHECK by the first 3 n numbers of the tape (four bytes each; empty then): NONE: right;");
        due("right", checked(3, 0, 1, 4, 1, 1, 8, 2, 0, 10000), -1);
        due("what follows does not matter", checked(3, 0, 1, 4, 1, 1, 8, 2, 0, 10000, 7, 7, 7), -1);
        due("no FILES, none told", new StampRoad().check(0), -1);
        promise(31, "else the place of the first number that is not so");
        due("FILE", checked(3, 1, 1, 4, 1, 1, 8, 2, 0, 10000), 0);
        due("STEP", checked(3, 0, 0, 4, 1, 1, 8, 2, 0, 10000), 1);
        due("COIN", checked(3, 0, 1, 5, 1, 1, 8, 2, 0, 10000), 2);
        due("COIN of which one byte is off", checked(3, 0, 1, 4 + (1 << 24), 1, 1, 8, 2, 0, 10000), 2);
        due("FILE 1", checked(3, 0, 1, 4, 2, 0, 10000, 1, 1, 8), 3);
        due("the last", checked(3, 0, 1, 4, 1, 1, 8, 2, 0, 9999), 8);
        due("the last STEP", checked(3, 0, 1, 4, 1, 1, 8, 2, 1, 10000), 7);
        due("the first of two", checked(3, 0, 1, 4, 1, 0, 8, 3, 0, 10000), 4);
        due("a FILE that is not there", checked(4, 0, 1, 4, 1, 1, 8, 2, 0, 10000, 3, 0, 0), 9);
        promise(31, "(3 n: some are lacking);");
        due("one is lacking", checked(2, 0, 1, 4, 1, 1, 8), 6);
        due("all are lacking", checked(0, 0, 1, 4, 1, 1), 0);
        due("one is off ahead of that", checked(2, 0, 1, 4, 1, 1, 9), 5);
        promise(31, "-2: it has not so many (the tape stays).");
        due("9 of 10 numbers", checked(3, 0, 1, 4, 1, 1, 8, 2, 0, 10000, 0), -1);
        due("12 of 10 numbers", checked(4, 0, 1, 4, 1, 1, 8, 2, 0, 10000, 0), -2);
        due("6 of 5 numbers", checked(2, 0, 1, 4, 1, 1), -2);
        due("3 of 0 numbers", checked(1), -2);
        due("below 0", checked(-1, 0, 1, 4, 1, 1), -2);
        due("most", checked(MOST, 0, 1, 4, 1, 1), -2);
        due("12 n wraps around", checked(1431655765, 0, 1, 4, 1, 1), -2);
        due("least", checked(LEAST, 0, 1, 4, 1, 1), -2);
        due("51 of 50 numbers", checked(17, new int[50]), -2);
        due("48 of 50 numbers", checked(16, new int[50]), 1);
    }

    private static void count() {
        promise(32, "0 NOW, 1 CLERKS, 2 STEPS, 3 FILES, 4 bytes of the tape, 5 VALUES, 6 ENTRIES, 7 GO-BETWEENS, 8 X,"
            + " 9 CLAUSES of THE LAW, 10 how many CLERKS took in the MONTH before;");
        StampRoad road = withClerks(10);
        for (int s = 0; s < 3; s++) {
            road.step(1023, 2);
        }
        for (int i = 0; i < 10; i++) {
            way(road, i, i == 9 ? "a1(1=1);w2(1=1);w3(1=1)" : "a1(1=1)");
        }
        law(road, "k1(1=1);k1(1=1);k1(1=1);k1(1=1)");
        for (int k = 0; k < 6; k++) {
            road.file(0, 9, 0);
            road.value(k);
            road.entry(0, k);
            road.go(1, k, 0, k);
        }
        road.value(1);
        road.entry(0, 1);
        road.entry(0, 1);
        road.seed(0);
        road.month();
        road.feed(0, 0, 0, 0, 0);
        int[] want = {1, 10, 3, 6, 20, 7, 8, 6, 0, 4, 0};
        int x = 0;
        boolean[] took = new boolean[10];
        for (int j = 0; j < 6; j++) {
            x = (25173 * x + 13849) % 65536;
            want[10] += took[x % 10] ? 0 : 1;
            took[x % 10] = true;
        }
        want[8] = x;
        for (int what = 0; what < want.length; what++) {
            due("count(" + what + ")", road.count(what), want[what]);
        }
        promise(32, "20 + i CLAUSES of the WAY of CLERK i.");
        due("count(20)", road.count(20), 1);
        due("count(29)", road.count(29), 3);
        due("without a WAY", withClerks(1).count(20), 0);
        promise(32, "NONE for others.");
        for (int what : new int[] {LEAST, -2, -1, 11, 12, 19, 30, 31, MOST}) {
            due("count(" + what + ")", road.count(what), -1);
        }
        due("CLERK 1 of 1", withClerks(1).count(21), -1);
    }
}
