/** The edges of MONTHS that go by, of what is asked of them, and of what came of them. */
final class MonthEdges extends Edges {
    static void run() {
        lastMonth();
        oneStepAtMost();
        lots();
        asItIsThen();
        paying();
        waiting();
        telling();
        asks();
        told();
        bears();
        again();
        againAtTheEnd();
    }

    private static void lastMonth() {
        term("MONTHS 0 to 239;");
        StampRoad road = oneStep("a7(y=238);w24(1=1)");
        months(road, 238);
        due("NOW", road.count(0), 238);
        due("a FILE comes", road.file(0, 7, 0), 0);
        promise(10, "A MONTH GOES BY: how much was PAID in it;");
        due("the last one that goes by", road.month(), 7);
        due("NOW", road.count(0), 239);
        due("DONE", road.fileIs(0, 5), 238);
        due("took", road.count(10), 1);
        promise(10, "NONE: it is 239.");
        due("a FILE comes", road.file(0, 9, 0), 1);
        due("came", road.fileIs(1, 6), 239);
        due("month", road.month(), -1);
        due("NOW", road.count(0), 239);
        due("it stands as it stood", road.fileIs(1, 2), 0);
        due("took", road.count(10), 1);
        due("month", road.month(), -1);
        due("nothing PAID", oneStep("a1(1=1)").month(), 0);
        due("no CLERKS, no STEPS", new StampRoad().month(), 0);
    }

    private static void oneStepAtMost() {
        term("A MONTH GOES BY: each FILE that is not DONE, by numbers, one STEP at most:");
        StampRoad road = withClerks(1);
        road.step(1, 0);
        road.step(1, 0);
        way(road, 0, "a1(1=1)");
        road.file(0, 99, 0);
        due("one STEP", road.month(), 1);
        due("STEP 1", road.fileIs(0, 0), 1);
        due("one STEP", road.month(), 1);
        due("DONE: no more", road.month(), 0);
        due("PAID", road.fileIs(0, 3), 2);
        due("m", road.fileIs(0, 2), 0);
        StampRoad order = oneStep("an(1=1)");
        order.file(0, 3, 0);
        order.file(0, 2, 0);
        order.file(0, 1, 0);
        due("the lowest number first", order.month(), 3 + 2 + 1);
        StampRoad back = oneStep("an(1=1)");
        back.file(0, 1, 0);
        back.file(0, 2, 0);
        back.file(0, 3, 0);
        due("the lowest number first", back.month(), 3);
    }

    /** Who of the CLERKS 1, 4 and 9 takes first, by that SEED. */
    private static int dealt(int seed, int wantX) {
        StampRoad road = withClerks(10);
        road.step(1 << 1 | 1 << 4 | 1 << 9, 2);
        for (int i = 0; i < 10; i++) {
            way(road, i, "a1(1=1)");
        }
        road.seed(seed);
        road.file(0, 1, 0);
        road.month();
        due("X", road.count(8), wantX);
        for (int i = 0; i < 10; i++) {
            if (road.clerkIs(i, 1) == 1) {
                return i;
            }
        }
        return -1;
    }

    private static void lots() {
        term("who serves it (LOT: X = (25173 X + 13849) modulo 65536,");
        due("13849 modulo 3 is 1", dealt(0, 13849), 4);
        due("54212 modulo 3 is 2", dealt(65535, 54212), 9);
        due("the least X", dealt(3915, 0), 1);
        due("the greatest X, modulo 3 0", dealt(33870, 65535), 1);
        term("the CLERK of that place of the set, from the lowest on: X modulo how many;");
        int[] xs = {39022, 61087, 20196, 45005, 3882, 21259, 65216, 19417};
        for (int n = 1; n <= 10; n++) {
            StampRoad road = withClerks(10);
            road.step((1 << n) - 1 << 10 - n, 2);
            for (int i = 0; i < 10; i++) {
                way(road, i, "a1(1=1)");
            }
            int[] times = new int[10];
            for (int x : xs) {
                road.file(0, 1, 0);
                times[10 - n + x % n]++;
            }
            road.month();
            due("X", road.count(8), xs[7]);
            for (int i = 0; i < 10; i++) {
                due("CLERK " + i + " of the last " + n, road.clerkIs(i, 1), times[i]);
            }
        }
        term("THE SEED X is 1 at first);");
        StampRoad road = withClerks(2);
        road.step(3, 2);
        way(road, 0, "a1(1=1);w9(1=1)");
        way(road, 1, "a1(1=1);w9(1=1)");
        road.file(1, 0, 0);
        road.month();
        due("X", road.count(8), 39022);
        road.month();
        due("X, though it stands where it stood", road.count(8), 61087);
        due("asking draws none", road.asks(0, 0, 0), 1);
        due("X", road.count(8), 61087);
        way(road, 0, "w0(1=1)");
        way(road, 1, "w0(1=1)");
        road.month();
        due("X", road.count(8), 20196);
        road.month();
        due("X, it is DONE", road.count(8), 20196);
    }

    private static void asItIsThen() {
        term("his price and WAIT, as it is then.");
        StampRoad road = oneStep("a9(n=2);a4(n=1)");
        road.file(0, 9, 0);
        road.file(0, 9, 0);
        due("the second finds one FILE less", road.month(), 9 + 4);
        StampRoad waits = oneStep("a8(1=1);w9(y=0);w1(y=1)");
        waits.file(1, 8, 4);
        waits.file(1, 8, 0);
        due("for 9 MONTHS it is worth 36", waits.month(), 8);
        due("not now any more", waits.month(), 0);
        due("WAIT is 1, it stood for 1", waits.fileIs(1, 5), 1);
        StampRoad anew = oneStep("a8(1=1)");
        anew.file(0, 7, 0);
        due("too dear", anew.month(), 0);
        way(anew, 0, "a7(1=1)");
        due("a WAY told anew", anew.month(), 7);
    }

    /** What a FILE pays at once to a CLERK who asks 60 and makes it wait for 3 MONTHS. */
    private static int pays(int right, int coin, int haste) {
        StampRoad road = oneStep("a60(1=1);w3(1=1)");
        road.file(right, coin, haste);
        int sum = road.month();
        due("it goes on if it PAYS", road.fileIs(0, 0), sum > 0 ? 1 : 0);
        due("COIN", road.fileIs(0, 1), coin - sum);
        return sum;
    }

    private static void paying() {
        term("It PAYS if the price is above 0,");
        StampRoad free = oneStep("a0-5(1=1)");
        free.file(0, 100, 0);
        due("price 0", free.month(), 0);
        due("nobody took", free.clerkIs(0, 1) + free.count(10), 0);
        due("it goes on", free.fileIs(0, 5), 0);
        StampRoad one = oneStep("a1(1=1)");
        one.file(0, 1, 0);
        due("price 1", one.month(), 1);
        term("not above its COIN,");
        due("COIN 60", pays(0, 60, 0), 60);
        due("COIN 59", pays(0, 59, 0), 0);
        due("COIN 0", pays(0, 0, 0), 0);
        due("COIN 59, with a RIGHT", pays(1, 59, 200), 0);
        term("and (if it has a RIGHT) not above HASTE times what WAIT is above m");
        due("20 times 3", pays(1, 60, 20), 60);
        due("19 times 3", pays(1, 60, 19), 0);
        due("HASTE 0", pays(1, 60, 0), 0);
        due("HASTE 0, no RIGHT", pays(0, 60, 0), 60);
        StampRoad later = oneStep("a60(m=2);a1000(1=1);w4(1=1)");
        later.file(1, 60, 30);
        later.file(1, 60, 29);
        months(later, 2);
        due("30 times 2, not 29", later.month(), 60);
        due("the first", later.fileIs(0, 3), 60);
        StampRoad last = oneStep("a9(1=1);w1(1=1)");
        last.file(1, 9, 9);
        last.file(1, 9, 8);
        due("WAIT 1: 9 times 1, not 8", last.month(), 9);
        due("the first", last.fileIs(0, 3), 9);
        StampRoad greatest = oneStep("a4800(1=1);w24(1=1)");
        greatest.file(1, 4800, 200);
        due("200 times 24", greatest.month(), 4800);
        term("(m not below WAIT: it does not); then it goes on.");
        StampRoad patient = oneStep("a1(m=2);a1000(1=1);w2(1=1)");
        patient.file(1, 100, 200);
        months(patient, 2);
        due("m is WAIT", patient.month(), 0);
        due("it goes on", patient.fileIs(0, 5), 2);
        StampRoad beyond = oneStep("a1(1=1);w5(m<3);w1(m>2)");
        beyond.file(1, 0, 200);
        months(beyond, 4);
        due("m is above WAIT", beyond.fileIs(0, 5), 3);
        StampRoad atOnce = oneStep("a1(1=1)");
        atOnce.file(1, 100, 200);
        due("WAIT 0", atOnce.month(), 0);
        due("it goes on", atOnce.fileIs(0, 5), 0);
    }

    private static void waiting() {
        term("Else, if it has a RIGHT (or the price is 0), it goes on if m is not below WAIT;");
        StampRoad road = oneStep("a5(r=1);w2(1=1)");
        road.file(1, 0, 0);
        road.file(0, 0, 0);
        months(road, 2);
        due("m is 2", road.fileIs(0, 2), 2);
        due("not yet", road.fileIs(0, 5), -1);
        due("not yet, the price is 0", road.fileIs(1, 5), -1);
        road.month();
        due("with a RIGHT", road.fileIs(0, 5), 2);
        due("the price is 0", road.fileIs(1, 5), 2);
        term("else it stands there for one MONTH more.");
        StampRoad none = oneStep("a5(1=1);w2(1=1)");
        none.file(0, 4, 0);
        months(none, 100);
        due("no RIGHT, no COIN: m", none.fileIs(0, 2), 100);
        due("STEP", none.fileIs(0, 0), 0);
        StampRoad longest = oneStep("w24(1=1)");
        longest.file(1, 0, 0);
        months(longest, 24);
        due("m", longest.fileIs(0, 2), 24);
        longest.month();
        due("after 24 MONTHS", longest.fileIs(0, 5), 24);
        due("m", longest.fileIs(0, 2), 0);
    }

    /** Of one who gave 5 of his 100: his COIN then. */
    private static int afterLaw(String text, int timesTold, int clerkHas) {
        StampRoad road = oneStep("a5(1=1)");
        due(text, law(road, text) > 0, true);
        road.file(0, 100, 0);
        due("PAID in the MONTH", road.month(), 5);
        due("TOLD", road.fileIs(0, 4), timesTold);
        due("the CLERK has", road.clerkIs(0, 0), clerkHas);
        due("TOOK", road.clerkIs(0, 1), 1);
        due("PAID", road.fileIs(0, 3), 5);
        return road.fileIs(0, 1);
    }

    private static void telling() {
        term("Who PAID: the CLERK has it (TOOK);");
        due("k and g alone", afterLaw("k9(1=1);g9(1=1)", 0, 5), 95);
        term("by THE LAW it is TOLD if b is more than g:");
        due("b is g", afterLaw("b9(1=1);g9(1=1);k3(1=1)", 0, 5), 95);
        due("b is 1 more", afterLaw("b10(1=1);g9(1=1);k3(1=1)", 1, 5 - 10 - 3), 96);
        due("b is 1 less", afterLaw("b8(1=1);g9(1=1);k3(1=1)", 0, 5), 95);
        due("b 1, no g", afterLaw("b1(1=1)", 1, 4), 96);
        due("both too great", afterLaw("b99999(1=1);g10001(1=1)", 0, 5), 95);
        due("both below 0", afterLaw("b0-1(1=1);g0-2(1=1)", 0, 5), 95);
        term("what he who gave must pay if it is told, what the CLERK must pay then, what he who gave has back.");
        due("all three", afterLaw("b60(1=1);g20(1=1);k30(1=1)", 1, 5 - 60 - 30), 100 - 5 - 20 + 60);
        due("x and c ahead of giving", afterLaw("bx+c(1=1);g2*x(c=100);k3(c=95)", 1, 5 - 105), 100 - 5 - 10 + 105);
        due("m, n and s ahead of going on", afterLaw("b10(m=0&n=1&s=0)", 1, 5 - 10), 105);
        term("then he who gave has g less and b more, the CLERK b and k less (below 0, too).");
        due("the greatest b and k", afterLaw("b10000(1=1);k10000(1=1)", 1, 5 - 20000), 10095);
        due("the greatest g", afterLaw("b10000(1=1);g9999(1=1)", 1, 5 - 10000), 96);
        StampRoad both = withClerks(2);
        both.step(1, 0);
        both.step(2, 0);
        way(both, 0, "a5(1=1)");
        way(both, 1, "a5(1=1)");
        law(both, "b7(i=0);k1(1=1)");
        both.file(0, 5, 0);
        months(both, 2);
        due("TOLD of one alone", both.fileIs(0, 4), 1);
        due("what was had back can be given", both.fileIs(0, 3), 10);
        due("the one", both.clerkIs(0, 0), -3);
        due("the other", both.clerkIs(1, 0), 5);
    }

    private static void asks() {
        promise(13, "What CLERK i would do to FILE j now, at its STEP, what 0 his price, 1 his WAIT;");
        StampRoad road = withClerks(3);
        road.step(5, 0);
        road.step(2, 2);
        way(road, 0, "a6(1=1);w7(1=1)");
        way(road, 1, "a8(1=1);w9(1=1)");
        way(road, 2, "a20(1=1);w24(1=1)");
        road.file(1, 6, 1);
        due("price", road.asks(0, 0, 0), 6);
        due("WAIT", road.asks(0, 0, 1), 7);
        due("who would not serve it, but is of the set", road.asks(2, 0, 0), 20);
        due("who would not serve it, but is of the set", road.asks(2, 0, 1), 24);
        promise(13, "NONE: no such ones,");
        due("CLERK -1", road.asks(-1, 0, 0), -1);
        due("CLERK 3 of 3", road.asks(3, 0, 0), -1);
        due("CLERK 32", road.asks(32, 0, 0), -1);
        due("FILE -1", road.asks(0, -1, 0), -1);
        due("FILE 1 of 1", road.asks(0, 1, 0), -1);
        due("FILE 40", road.asks(0, 40, 0), -1);
        due("what -1", road.asks(0, 0, -1), -1);
        due("what 2", road.asks(0, 0, 2), -1);
        promise(13, "he is not of the STEP.");
        due("CLERK 1 is of STEP 1", road.asks(1, 0, 0), -1);
        due("it PAYS", road.month(), 6);
        due("now he is", road.asks(1, 0, 0), 8);
        due("CLERK 0 is not", road.asks(0, 0, 0), -1);
        promise(13, "it is DONE,");
        months(road, 10);
        due("it is", road.fileIs(0, 0), 2);
        due("CLERK 1", road.asks(1, 0, 0), -1);
        due("CLERK 0", road.asks(0, 0, 1), -1);
    }

    private static void told() {
        promise(14, "By THE LAW, if FILE j gave x (0 to 10000) to CLERK i now, what 0 g, 1 k, 2 b;");
        StampRoad road = withClerks(2);
        road.step(1, 0);
        road.file(1, 3, 0);
        for (int what = 0; what < 3; what++) {
            due("no LAW", road.told(0, 0, 0, what), 0);
        }
        law(road, "gx+1(1=1);kx/2(1=1);bi*100+c(1=1)");
        due("x 0", road.told(0, 0, 0, 0), 1);
        due("x 9999", road.told(0, 0, 9999, 0), 10000);
        due("x 10000, more than its COIN", road.told(0, 0, 10000, 1), 5000);
        due("to one who is not of the STEP", road.told(1, 0, 0, 2), 103);
        due("it is not given", road.fileIs(0, 1), 3);
        promise(14, "NONE: no such ones,");
        due("x -1", road.told(0, 0, -1, 0), -1);
        due("x 10001", road.told(0, 0, 10001, 0), -1);
        due("what -1", road.told(0, 0, 0, -1), -1);
        due("what 3", road.told(0, 0, 0, 3), -1);
        due("CLERK -1", road.told(-1, 0, 0, 0), -1);
        due("CLERK 2 of 2", road.told(2, 0, 0, 0), -1);
        due("FILE -1", road.told(0, -1, 0, 0), -1);
        due("FILE 1 of 1", road.told(0, 1, 0, 0), -1);
        promise(14, "it is DONE.");
        road.month();
        due("DONE", road.told(0, 0, 0, 0), -1);
    }

    private static void bears() {
        promise(29, "NONE: there is none that PAID.");
        due("no FILES", new StampRoad().bears(), -1);
        StampRoad road = oneStep("a1(c=1);a2(c=2);a6(c=12);a7(c=13);a5000(c=10000)");
        road.file(0, 0, 0);
        due("COIN 0", road.bears(), -1);
        road.month();
        due("it is DONE and PAID nothing", road.bears(), -1);
        StampRoad idle = oneStep("a9(1=1)");
        idle.file(0, 8, 0);
        idle.file(1, 100, 0);
        idle.month();
        due("they have COIN, but PAID nothing", idle.bears(), -1);
        term("BEARS most: the FILE that PAID the greatest part of the COIN with which it came");
        promise(29, "BEARS most: the FILE;");
        road.file(0, 10000, 0);
        road.month();
        due("5000 of 10000", road.bears(), 1);
        road.file(0, 13, 0);
        road.month();
        due("7 of 13", road.bears(), 2);
        term("of like ones the lowest.");
        road.file(0, 12, 0);
        road.file(0, 1, 0);
        road.file(0, 2, 0);
        road.month();
        due("1 of 1, 2 of 2", road.bears(), 4);
        StampRoad halves = oneStep("a5000(c=10000);a6(c=12)");
        halves.file(0, 10000, 0);
        halves.file(0, 12, 0);
        halves.month();
        due("5000 of 10000, 6 of 12", halves.bears(), 0);
        term("(what it had back aside; COIN 0: none);");
        StampRoad back = oneStep("a50(c=100);a3(c=10)");
        law(back, "b10000(c=100)");
        back.file(0, 10, 0);
        back.file(0, 100, 0);
        back.file(0, 0, 0);
        back.month();
        due("50 of 100, though it has 10050", back.bears(), 1);
        StampRoad twice = withClerks(1);
        for (int s = 0; s < 8; s++) {
            twice.step(1, 0);
        }
        way(twice, 0, "ac(1=1)");
        law(twice, "b10000(r=0)");
        twice.file(1, 1, 0);
        twice.file(0, 1, 0);
        twice.file(0, 10000, 0);
        months(twice, 8);
        due("more than with which it came", twice.fileIs(1, 3), 70001);
        due("70001 of 1 and 80000 of 10000", twice.bears(), 1);
    }

    private static StampRoad played() {
        StampRoad road = withClerks(2);
        road.step(3, 2);
        road.step(1, 0);
        way(road, 0, "a10(1=1)");
        way(road, 1, "a20(1=1)");
        road.seed(9);
        road.file(0, 99, 0);
        road.file(0, 9, 0);
        road.month();
        road.seed(65535);
        road.file(0, 99, 0);
        road.month();
        road.month();
        road.file(0, 99, 0);
        return road;
    }

    private static void again() {
        term("PLAYED AGAIN: all MONTHS from the beginning with THE SEED told last, FILES as they came, TEXTS and ROAD as they are"
            + " now: how many are DONE, how much was PAID.");
        StampRoad lots = withClerks(2);
        lots.step(3, 2);
        way(lots, 0, "a10(1=1)");
        lots.file(0, 99, 0);
        due("X 39022: CLERK 0", lots.month(), 10);
        due("THE SEED at first", lots.again(1), 10);
        lots.seed(0);
        due("THE SEED told last, X 13849: CLERK 1", lots.again(1), 0);
        lots.seed(70000);
        due("not one that is refused", lots.again(1), 0);
        lots.seed(1);
        way(lots, 0, "a10(y=0);a20(c>99)");
        lots.file(0, 100, 0);
        due("FILES as they came, the second in MONTH 1", lots.again(1), 10);
        due("TEXTS as they are now", way(lots, 0, "a11(c=99)") + lots.again(1), 12);
        promise(30, "PLAYED AGAIN, what 0 how many are DONE, 1 all that was PAID,");
        due("no MONTH, no FILE", new StampRoad().again(0) + new StampRoad().again(1), 0);
        StampRoad road = played();
        StampRoad same = withClerks(2);
        same.step(3, 2);
        same.step(1, 0);
        way(same, 0, "a10(1=1)");
        way(same, 1, "a20(1=1)");
        same.seed(65535);
        same.file(0, 99, 0);
        same.file(0, 9, 0);
        int sum = same.month();
        same.file(0, 99, 0);
        sum += same.month();
        sum += same.month();
        due("PAID by another land from the beginning", road.again(1), sum);
        due("DONE", road.again(0), 2);
        promise(30, "2 whether each FILE stands where it does now (1, 0).");
        due("they do", road.again(2), 1);
        due("they do, with other prices", way(road, 0, "a11(1=1)") + road.again(2), 2);
        due("one does not", way(road, 0, "a100(1=1)") + road.again(2), 1);
        due("no FILES", new StampRoad().again(2), 1);
        StampRoad first = oneStep("w0(1=1)");
        first.file(1, 0, 0);
        first.month();
        first.file(1, 0, 0);
        due("the first is DONE", first.again(0), 1);
        way(first, 0, "w1(1=1)");
        due("the first alone stands elsewhere", first.again(2), 0);
        way(first, 0, "w0(1=1)");
        first.file(1, 0, 0);
        months(first, 1);
        way(first, 0, "w1(y=1)");
        due("the others alone stand elsewhere", first.again(2), 0);
        StampRoad often = withClerks(2);
        often.step(3, 2);
        often.step(1, 0);
        way(often, 0, "an*10+o+1(1=1)");
        way(often, 1, "an*20+o+2(1=1)");
        often.file(0, 10000, 0);
        often.file(0, 10000, 0);
        int paid = often.month();
        often.file(0, 10000, 0);
        paid += often.month();
        for (int k = 0; k < 3; k++) {
            due("as often as one asks", often.again(1), paid);
            due("as often as one asks", often.again(0), 2);
        }
        promise(30, "NONE for others.");
        due("what -1", road.again(-1), -1);
        due("what 3", road.again(3), -1);
        due("what most", road.again(Integer.MAX_VALUE), -1);
    }

    private static void againAtTheEnd() {
        about("again, at MONTH 239");
        StampRoad road = oneStep("a1(r=0);w24(1=1)");
        road.file(0, 1, 0);
        months(road, 238);
        road.file(0, 1, 0);
        road.month();
        road.file(0, 1, 0);
        due("PAID", road.again(1), 2);
        due("DONE", road.again(0), 2);
        due("as now", road.again(2), 1);
        due("NOW", road.count(0), 239);
        due("o", road.count(10), 1);
    }
}
