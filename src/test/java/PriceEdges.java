/** The edges of prices: HANDS, waiting that is made, PAGES, GO-BETWEENS, people SENT to try. */
final class PriceEdges extends Edges {
    /** VALUES with which 11 HANDS do not change in the 100th round, and such with which they do so in the 101st first. */
    private static final int[] IN_100_ROUNDS = {8754, 8895, 8937, 5758, 8810, 8906, 4266, 344, 1044, 8870, 8879, 5164, 8812,
        8926, 8852, 4375, 8827, 5721, 8843, 4989};
    private static final int[] IN_101_ROUNDS = {8746, 9023, 8927, 1429, 8807, 8890, 6169, 356, 1042, 8860, 8870, 307, 8811,
        8926, 8865, 1307, 8834, 5721, 8831, 5025};

    static void run() {
        values();
        one();
        each();
        made();
        entries();
        middle();
        betweens();
        spans();
        odds();
        those();
    }

    private static StampRoad withValues(int... values) {
        StampRoad road = new StampRoad();
        for (int v : values) {
            road.value(v);
        }
        return road;
    }

    private static void values() {
        term("HANDS: VALUES (20 at most, 0 to 10000) of people.");
        promise(19, "A VALUE: how many there are;");
        StampRoad road = new StampRoad();
        due("0", road.value(0), 1);
        due("10000", road.value(10000), 2);
        due("one that is there", road.value(10000), 3);
        promise(19, "NONE: no such one,");
        due("-1", road.value(-1), -1);
        due("10001", road.value(10001), -1);
        due("least", road.value(Integer.MIN_VALUE), -1);
        due("how many", road.count(5), 3);
        promise(19, "20 are there.");
        for (int k = 4; k <= 20; k++) {
            due("VALUE " + k, road.value(k), k);
        }
        due("a 21st", road.value(10000), -1);
        due("how many", road.count(5), 20);
        due("it does not count", road.one(1), 20000);
    }

    private static void one() {
        term("ONE FOR ALL: the price (0 to 10000) by which price times those whose VALUE is not below it is most;");
        promise(20, "ONE FOR ALL, what 0 the price, 1 what it brings;");
        due("no VALUES: the price", new StampRoad().one(0), 0);
        due("no VALUES: what it brings", new StampRoad().one(1), 0);
        due("VALUE 0", withValues(0).one(0), 0);
        due("VALUE 1", withValues(1).one(0), 1);
        due("VALUE 10000", withValues(10000).one(0), 10000);
        due("7 of two", withValues(7, 7).one(1), 14);
        due("the greater of two", withValues(15, 7).one(0), 15);
        due("the less of two", withValues(13, 7).one(0), 7);
        StampRoad full = new StampRoad();
        for (int k = 0; k < 20; k++) {
            full.value(10000);
        }
        due("20 of 10000", full.one(1), 200000);
        term("of like ones the least. EACH FOR HIMSELF");
        due("14 of one, 7 of two", withValues(14, 7).one(0), 7);
        due("12, 6, 4 and 3", withValues(12, 3, 6, 4).one(0), 3);
        due("what each of them brings", withValues(12, 3, 6, 4).one(1), 12);
        promise(20, "NONE for others.");
        due("what -1", full.one(-1), -1);
        due("what 2", full.one(2), -1);
    }

    private static void each() {
        term(", of n HANDS (1 to 11): prices 0 at first;");
        promise(21, "EACH FOR HIMSELF of n HANDS, what 0 all prices together, 1 what they bring together;");
        due("no VALUES", new StampRoad().each(11, 0) + new StampRoad().each(1, 1), 0);
        due("VALUE 0", withValues(0, 0).each(2, 0), 0);
        due("one HAND", withValues(14, 7).each(1, 0), 7);
        due("one HAND", withValues(14, 7).each(1, 1), 14);
        due("one VALUE: the first takes it all", withValues(10).each(11, 0), 10);
        due("one VALUE: the first takes it all", withValues(10).each(11, 1), 10);
        term("by turns each HAND takes the price by which it has most, others' as they are:"
            + " price times those whose VALUE is not below all prices together;");
        // 5 of two (10); then 5 of one or 0 of two; then the first has 5 of one beside 5, and stays.
        due("the second asks what is left", withValues(10, 5).each(2, 0), 10);
        due("one of two is lost", withValues(10, 5).each(2, 1), 10);
        term("of like ones the least;");
        due("the first takes 4 of two, not 8 of one", withValues(8, 4).each(1, 0), 4);
        // 6 of three, 4 of one; then beside 4 the first has as much by 2 of three as by 6 of one, and the second stays.
        due("2 and 4, not 6 and 4", withValues(10, 6, 6).each(2, 0), 6);
        term("till in a whole round none changes: all prices together; none behind 100 rounds.");
        due("in the 100th round none changes", withValues(IN_100_ROUNDS).each(11, 0), 8754);
        due("what they bring", withValues(IN_100_ROUNDS).each(11, 1), 12 * 8754);
        promise(21, "-2: none behind 100 rounds;");
        due("in the 101st", withValues(IN_101_ROUNDS).each(11, 0), -2);
        due("in the 101st", withValues(IN_101_ROUNDS).each(11, 1), -2);
        promise(21, "NONE: no such ones.");
        due("n 0", withValues(5).each(0, 0), -1);
        due("n 12", withValues(5).each(12, 0), -1);
        due("n -1", withValues(5).each(-1, 0), -1);
        due("n most", withValues(5).each(Integer.MAX_VALUE, 0), -1);
        due("what -1", withValues(5).each(1, -1), -1);
        due("what 2", withValues(5).each(1, 2), -1);
        due("what 2, none behind 100 rounds", withValues(IN_101_ROUNDS).each(11, 2), -1);
    }

    private static StampRoad standing(int... rightsCoinsHastes) {
        StampRoad road = oneStep("w24(1=1)");
        road.step(1, 0);
        for (int k = 0; k < rightsCoinsHastes.length; k += 3) {
            road.file(rightsCoinsHastes[k], rightsCoinsHastes[k + 1], rightsCoinsHastes[k + 2]);
        }
        return road;
    }

    private static void made() {
        term("MADE TO WAIT: of a STEP: how long (0 to 24 MONTHS) one would wait who has it all alone, so that FILES that stand"
            + " there and have a RIGHT bring most:");
        promise(22, "MADE TO WAIT at STEP s, what 0 MONTHS, 1 what it brings;");
        due("no FILES", standing().made(0, 0) + standing().made(0, 1), 0);
        due("24 MONTHS", standing(1, 10000, 200).made(0, 0), 24);
        due("24 MONTHS", standing(1, 10000, 200).made(0, 1), 4800);
        due("no RIGHT", standing(0, 10000, 200).made(0, 1), 0);
        due("at the other STEP", standing(1, 10000, 200).made(1, 1), 0);
        StampRoad passing = standing(1, 100, 2, 1, 100, 1);
        way(passing, 0, "a2(h=2);w9(1=1)");
        passing.month();
        due("one went on with the COIN it has left", passing.made(1, 1), 48);
        due("one stands", passing.made(0, 1), 24);
        term("HASTE times MONTHS of each whose COIN is not less;");
        due("just 4 MONTHS", standing(1, 40, 10).made(0, 0), 4);
        due("not 4 MONTHS", standing(1, 39, 10).made(0, 0), 3);
        due("23 MONTHS", standing(1, 4799, 200).made(0, 0), 23);
        due("one is left behind", standing(1, 40, 10, 1, 10000, 9).made(0, 1), 216);
        due("both together", standing(1, 40, 10, 1, 45, 9).made(0, 1), 76);
        due("not one", standing(1, 9, 10).made(0, 0), 0);
        due("just one", standing(1, 1, 1).made(0, 0), 1);
        due("just one", standing(1, 1, 1).made(0, 1), 1);
        term("of like ones the least. A PAGE");
        due("4 MONTHS of two, or 8 of one", standing(1, 40, 10, 1, 80, 10).made(0, 0), 4);
        due("HASTE 0", standing(1, 10000, 0).made(0, 0), 0);
        promise(22, "NONE: no such ones.");
        due("STEP -1", standing().made(-1, 0), -1);
        due("STEP 2 of two", standing().made(2, 0), -1);
        due("STEP 8", standing().made(8, 0), -1);
        due("what -1", standing().made(0, -1), -1);
        due("what 2", standing().made(0, 2), -1);
        due("no STEPS", new StampRoad().made(0, 0), -1);
    }

    private static StampRoad withSteps(int n) {
        StampRoad road = withClerks(1);
        for (int s = 0; s < n; s++) {
            road.step(1, 0);
        }
        return road;
    }

    private static void entries() {
        term(": ENTRIES (60 at most): a STEP, a sum (0 to 10000).");
        promise(23, "An ENTRY: how many there are;");
        StampRoad road = withSteps(2);
        due("sum 0", road.entry(0, 0), 1);
        due("sum 10000", road.entry(1, 10000), 2);
        promise(23, "NONE: no such ones,");
        due("STEP -1", road.entry(-1, 0), -1);
        due("STEP 2 of two", road.entry(2, 0), -1);
        due("sum -1", road.entry(0, -1), -1);
        due("sum 10001", road.entry(0, 10001), -1);
        due("STEP 0 of none", new StampRoad().entry(0, 0), -1);
        due("how many", road.count(6), 2);
        promise(23, "60 are there.");
        for (int k = 3; k <= 60; k++) {
            due("ENTRY " + k, road.entry(0, 7), k);
        }
        due("a 61st", road.entry(0, 9), -1);
        due("a 61st, of another STEP", road.entry(1, 9), -1);
        due("how many", road.count(6), 60);
    }

    /** A PAGE with these sums of STEP 1, and others of STEP 0 around them. */
    private static StampRoad page(int... sums) {
        StampRoad road = withSteps(3);
        for (int sum : sums) {
            road.entry(0, 5);
            road.entry(1, sum);
            road.entry(0, 9999);
        }
        return road;
    }

    private static void middle() {
        term("If at most so many of those of a STEP lie (for each any sum from 0 to 10000 may be true):");
        promise(24, "THE MIDDLE of STEP s if at most so many (0 to 60) lie, what 0 from, 1 to;");
        due("none lies: from", page(30, 10, 20).middle(1, 0, 0), 20);
        due("none lies: to", page(30, 10, 20).middle(1, 0, 1), 20);
        due("one lies: from", page(30, 10, 20).middle(1, 1, 0), 10);
        due("one lies: to", page(30, 10, 20).middle(1, 1, 1), 30);
        due("two lie: from", page(30, 10, 20).middle(1, 2, 0), 0);
        due("two lie: to", page(30, 10, 20).middle(1, 2, 1), 10000);
        due("60 lie: from", page(30, 10, 20).middle(1, 60, 0), 0);
        due("60 lie: to", page(30, 10, 20).middle(1, 60, 1), 10000);
        StampRoad full = withSteps(1);
        for (int k = 0; k < 60; k++) {
            full.entry(0, 59 - k);
        }
        due("of 60, 29 lie: to", full.middle(0, 29, 1), 59);
        due("of 60, 30 lie: to", full.middle(0, 30, 1), 10000);
        due("of 60, 29 lie: from", full.middle(0, 29, 0), 1);
        due("of 60, 30 lie: from", full.middle(0, 30, 0), 0);
        due("of 60, 31 lie: from", full.middle(0, 31, 0), 0);
        term("THE MIDDLE of what was paid (by sums the one at the place half of them, from 0 on, rounded down) is from which to"
            + " which.");
        due("of one", page(7).middle(1, 0, 0), 7);
        due("of two", page(8, 7).middle(1, 0, 0), 8);
        due("of three", page(9, 8, 7).middle(1, 0, 0), 8);
        due("of four", page(10, 9, 8, 7).middle(1, 0, 0), 9);
        due("of five", page(11, 10, 9, 8, 7).middle(1, 0, 0), 9);
        due("of two, one lies: from", page(8, 7).middle(1, 1, 0), 7);
        due("of two, one lies: to", page(8, 7).middle(1, 1, 1), 10000);
        due("of like ones", page(7, 7, 7).middle(1, 1, 1), 7);
        due("the ends of what can be told", page(0, 10000).middle(1, 0, 0), 10000);
        promise(24, "-2: there are no ENTRIES of it;");
        due("STEP 2", page(7).middle(2, 0, 0), -2);
        due("STEP 2, all lie", page(7).middle(2, 60, 1), -2);
        due("an empty PAGE", withSteps(1).middle(0, 0, 0), -2);
        promise(24, "NONE: no such ones.");
        due("STEP -1", page(7).middle(-1, 0, 0), -1);
        due("STEP 3 of three", page(7).middle(3, 0, 0), -1);
        due("liars -1", page(7).middle(1, -1, 0), -1);
        due("liars 61", page(7).middle(1, 61, 0), -1);
        due("liars 61, no ENTRIES", page(7).middle(2, 61, 0), -1);
        due("liars most", page(7).middle(1, Integer.MAX_VALUE, 0), -1);
        due("what -1", page(7).middle(1, 0, -1), -1);
        due("what 2", page(7).middle(1, 0, 2), -1);
    }

    private static void betweens() {
        term("GO-BETWEENS (8 at most): a price (0 to 30000) for a set of CLERKS, of which they keep from a to b (0 to 30000):");
        promise(25, "A GO-BETWEEN: its number;");
        StampRoad road = withClerks(3);
        due("price 0", road.go(1, 0, 0, 0), 0);
        due("price 30000", road.go(7, 30000, 0, 30000), 1);
        due("all is kept", road.go(2, 30000, 30000, 30000), 2);
        promise(25, "NONE: no such ones");
        due("price -1", road.go(1, -1, 0, 0), -1);
        due("price 30001", road.go(1, 30001, 0, 0), -1);
        due("an empty set", road.go(0, 5, 0, 0), -1);
        due("CLERK 3 of three", road.go(8, 5, 0, 0), -1);
        due("set -1", road.go(-1, 5, 0, 0), -1);
        due("a -1", road.go(1, 5, -1, 0), -1);
        due("a -1, b -1", road.go(1, 5, -1, -1), -1);
        due("b 30001", road.go(1, 30000, 0, 30001), -1);
        due("a most", road.go(1, 30000, Integer.MAX_VALUE, 30000), -1);
        promise(25, "(a above b, or b above the price, too),");
        due("a is b", road.go(4, 10, 5, 5), 3);
        due("a above b", road.go(4, 10, 6, 5), -1);
        due("b is the price", road.go(4, 10, 5, 10), 4);
        due("b above the price", road.go(4, 10, 5, 11), -1);
        due("price 0, b 1", road.go(4, 0, 0, 1), -1);
        due("how many", road.count(7), 5);
        promise(25, "8 are there.");
        for (int k = 5; k < 8; k++) {
            due("GO-BETWEEN " + k, road.go(1, 5, 0, 5), k);
        }
        due("a ninth", road.go(1, 5, 0, 5), -1);
        due("how many", road.count(7), 8);
        StampRoad full = withClerks(2);
        for (int k = 0; k < 8; k++) {
            full.go(1, 9000, 0, 9000);
        }
        due("a ninth", full.go(2, 7, 0, 0), -1);
        due("it tells nothing", full.span(1, 1), 10000);
    }

    private static void spans() {
        promise(26, "SPAN of CLERK i, what 0 the least, 1 the greatest;");
        term("SPAN of a CLERK's price: from 0 to 10000,");
        due("no GO-BETWEEN: least", withClerks(2).span(1, 0), 0);
        due("no GO-BETWEEN: greatest", withClerks(2).span(1, 1), 10000);
        StampRoad just = withClerks(1);
        just.go(1, 10000, 0, 0);
        due("just 10000", just.span(0, 0) - just.span(0, 1), 0);
        StampRoad beyond = withClerks(1);
        beyond.go(1, 10001, 0, 0);
        due("10001", beyond.span(0, 0), -2);
        StampRoad wide = withClerks(1);
        wide.go(1, 30000, 1, 30000);
        due("from 0 to 29999", wide.span(0, 0) * 100000 + wide.span(0, 1), 10000);
        term("CLERKS of the set together have from price less b to price less a.");
        StampRoad one = withClerks(1);
        one.go(1, 100, 10, 30);
        due("price less b", one.span(0, 0), 70);
        due("price less a", one.span(0, 1), 90);
        term("made narrower by each such one, GO-BETWEEN by GO-BETWEEN, CLERK by CLERK, as long as something changes"
            + " (least: what is least together, less what the others have at most; greatest: likewise);");
        StampRoad two = withClerks(3);
        two.go(3, 16000, 0, 1000);
        due("15000 less 10000", two.span(0, 0), 5000);
        due("16000 less 5000 is above 10000", two.span(0, 1), 10000);
        two.go(1, 7000, 0, 0);
        due("at least 15000 less 7000", two.span(1, 0), 8000);
        due("at most 16000 less 7000", two.span(1, 1), 9000);
        due("who is in no set", two.span(2, 0) * 100000 + two.span(2, 1), 10000);
        StampRoad back = withClerks(4);
        back.go(3, 100, 0, 0);
        back.go(6, 100, 0, 0);
        back.go(12, 100, 0, 0);
        back.go(8, 30, 0, 0);
        due("the last one told narrows the first: least", back.span(0, 0), 70);
        due("the last one told narrows the first: greatest", back.span(0, 1), 70);
        StampRoad three = withClerks(3);
        three.go(7, 25000, 0, 0);
        due("of three: 25000 less 20000", three.span(2, 0), 5000);
        three.go(7, 25000, 10000, 10000);
        due("15000 and 25000 are not both", three.span(2, 0), -2);
        term("none, if one is turned over.");
        promise(26, "-2: one is turned over;");
        StampRoad over = withClerks(3);
        over.go(1, 50, 0, 0);
        over.go(1, 50, 0, 0);
        due("not turned over: it is one price", over.span(0, 0), 50);
        over.go(1, 49, 0, 0);
        due("he", over.span(0, 0), -2);
        due("another", over.span(2, 1), -2);
        over.clerk(0, 0);
        due("one who came later", over.span(3, 0), -2);
        StampRoad slow = withClerks(2);
        slow.go(3, 10000, 0, 0);
        due("least", slow.span(0, 0), 0);
        slow.go(3, 10001, 0, 0);
        due("bit by bit", slow.span(0, 0), -2);
        promise(26, "NONE: no such ones.");
        due("CLERK -1", just.span(-1, 0), -1);
        due("CLERK 1 of one", just.span(1, 0), -1);
        due("what -1", just.span(0, -1), -1);
        due("what 2", just.span(0, 2), -1);
        due("CLERK 4 of four, one is turned over", over.span(4, 0), -1);
        due("what 2, one is turned over", over.span(0, 2), -1);
    }

    private static void odds() {
        term("SENT to try: of n CLERKS (1 to 10) m were tried by lot (0 to n), k of them asked.");
        promise(27, "ODDS of k of m tried of n, if t ask, what 0 above, 1 below the line,");
        StampRoad road = new StampRoad();
        due("n 1, tried, asks", road.odds(1, 1, 1, 1, 0), 1);
        due("n 10, all tried, all ask", road.odds(10, 10, 10, 10, 1), 1);
        due("above", road.odds(10, 5, 0, 5, 0), 1);
        due("below", road.odds(10, 5, 0, 5, 1), 252);
        due("m 0", road.odds(10, 0, 0, 10, 0), 1);
        due("m 0", road.odds(10, 0, 0, 10, 1), 1);
        term("ODDS that just k do, if t of n ask: a fraction.");
        due("fewer ask than k: above", road.odds(4, 2, 2, 1, 0), 0);
        due("fewer ask than k: below", road.odds(4, 2, 2, 1, 1), 1);
        due("fewer do not than m less k", road.odds(4, 3, 1, 3, 0), 0);
        due("1 of 2 of 4, if 2 ask", road.odds(4, 2, 1, 2, 0), 2);
        due("1 of 2 of 4, if 2 ask", road.odds(4, 2, 1, 2, 1), 3);
        promise(27, "without a common divisor;");
        due("100 of 252", road.odds(10, 5, 3, 5, 0), 25);
        due("100 of 252", road.odds(10, 5, 3, 5, 1), 63);
        due("6 of 6", road.odds(4, 2, 2, 4, 0) * 10 + road.odds(4, 2, 2, 4, 1), 11);
        due("0 of 6", road.odds(4, 2, 2, 0, 0) * 10 + road.odds(4, 2, 2, 0, 1), 1);
        promise(27, "NONE: no such ones.");
        due("n 0", road.odds(0, 0, 0, 0, 0), -1);
        due("n 11", road.odds(11, 1, 1, 1, 0), -1);
        due("n -1", road.odds(-1, 0, 0, 0, 0), -1);
        due("m -1", road.odds(4, -1, 0, 0, 0), -1);
        due("m 5 of 4", road.odds(4, 5, 0, 0, 0), -1);
        due("k -1", road.odds(4, 2, -1, 0, 0), -1);
        due("k 3 of 2", road.odds(4, 2, 3, 4, 0), -1);
        due("t -1", road.odds(4, 2, 1, -1, 0), -1);
        due("t 5 of 4", road.odds(4, 2, 1, 5, 0), -1);
        due("what -1", road.odds(4, 2, 1, 1, -1), -1);
        due("what 2", road.odds(4, 2, 1, 1, 2), -1);
    }

    private static void those() {
        term("THOSE t for which they are not below so many thousandths: the least, the greatest.");
        promise(28, "THOSE t by so many thousandths (1 to 1000), what 0 the least, 1 the greatest;");
        StampRoad road = new StampRoad();
        due("just a half", road.those(2, 1, 1, 500, 0), 1);
        due("501", road.those(2, 1, 1, 501, 0), 2);
        due("1000", road.those(2, 1, 1, 1000, 0), 2);
        due("999: 2 of 3 is below", road.those(3, 1, 1, 999, 0), 3);
        due("666: 2 of 3 is not below", road.those(3, 1, 1, 666, 0), 2);
        due("667: 2 of 3 is below", road.those(3, 1, 1, 667, 0), 3);
        due("1: 1 of 252", road.those(10, 5, 5, 1, 0), 5);
        due("3: 1 of 252 is not below", road.those(10, 5, 0, 3, 1), 5);
        due("4: 1 of 252 is below", road.those(10, 5, 0, 4, 1), 4);
        due("nobody tried: the least", road.those(10, 0, 0, 1000, 0), 0);
        due("nobody tried: the greatest", road.those(10, 0, 0, 1000, 1), 10);
        promise(28, "-2: there is none;");
        due("2 of 3 at most, 667", road.those(4, 2, 1, 667, 0), -2);
        due("2 of 3 at most, 666", road.those(4, 2, 1, 666, 1), 2);
        due("1000", road.those(4, 2, 1, 1000, 1), -2);
        promise(28, "NONE: no such ones.");
        due("0 thousandths", road.those(4, 2, 1, 0, 0), -1);
        due("1001 thousandths", road.those(4, 2, 1, 1001, 0), -1);
        due("thousandths most", road.those(4, 2, 1, Integer.MAX_VALUE, 0), -1);
        due("n 0", road.those(0, 0, 0, 1, 0), -1);
        due("n 11", road.those(11, 2, 1, 1, 0), -1);
        due("m 5 of 4", road.those(4, 5, 1, 1, 0), -1);
        due("m -1", road.those(4, -1, 0, 1, 0), -1);
        due("k 3 of 2", road.those(4, 2, 3, 1, 0), -1);
        due("k -1", road.those(4, 2, -1, 1, 0), -1);
        due("what -1", road.those(4, 2, 1, 1, -1), -1);
        due("what 2", road.those(4, 2, 1, 1, 2), -1);
        due("what 2, there is none", road.those(4, 2, 1, 1000, 2), -1);
    }
}
