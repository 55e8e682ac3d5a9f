/** The edges of GAIN, of RESTS, and of what GOES TO them or is TURNED. */
final class RestEdges extends Edges {
    /** A GAIN, and CLERKS with whom some sets take just 100 rounds, some 101: that the REST 6 comes about in the last. */
    private static final String SLOW = "[p*[o*o+7]+f*o*3]%101-50";
    private static final int[] SLOW_PAY = {596, 28, 158, 128, 809, 720, 576, 38, 852, 156};
    private static final int[] SLOW_FEAR = {77, 15, 79, 18, 85, 96, 42, 20, 72, 54};
    private static final int IN_100_ROUNDS = 818;
    private static final int IN_101_ROUNDS = 561;

    static void run() {
        gains();
        wants();
        rest();
        rests();
        goesTo();
        turned();
    }

    /** So many CLERKS with PAY 0, 100, 200 .. and FEAR 0, 10, 20 .., and a GAIN. */
    private static StampRoad land(int clerks, String gain) {
        StampRoad road = withClerks(clerks);
        due(gain, gain(road, gain), 1);
        return road;
    }

    private static StampRoad slowLand() {
        StampRoad road = new StampRoad();
        for (int i = 0; i < 10; i++) {
            road.clerk(SLOW_PAY[i], SLOW_FEAR[i]);
        }
        due(SLOW, gain(road, SLOW), 1);
        return road;
    }

    private static void gains() {
        term("GAIN: a TEXT of one E (letters i, f, p, o, n: here o of the other CLERKS who take,");
        due("i", land(10, "i-8").goesTo(0), 512);
        due("f", land(10, "f-70").goesTo(0), 256 + 512);
        due("p", land(10, "p-899").goesTo(0), 512);
        due("o: he himself does not count", land(2, "o-1").rest(1), 0);
        due("o: he himself does not count", land(2, "1-o").rest(3), 1);
        due("o: three of three", land(3, "o-1").rest(7), 1);
        due("o: three of three", land(3, "2-o").rest(7), 1);
        due("o: three of three", land(3, "1-o").rest(7), 0);
        StampRoad others = land(2, "o-1");
        others.step(3, 0);
        others.file(0, 9, 9);
        way(others, 0, "a1(1=1)");
        others.month();
        due("o is not of the MONTH before", others.count(10) * 10 + others.rest(0), 11);
        due("o is not of the MONTH before", others.goesTo(0), 0);
        term("n how many CLERKS there are;");
        due("n is 3", land(3, "n-2").goesTo(0), 7);
        due("n is 3", land(3, "n-3").goesTo(0), 0);
        StampRoad grows = land(1, "n-1");
        due("n is 1", grows.goesTo(0), 0);
        grows.clerk(0, 0);
        due("n is 2", grows.goesTo(0), 3);
        grows.step(1, 0);
        grows.file(1, 1, 1);
        grows.file(1, 1, 1);
        due("n is not how many FILES there are", gain(grows, "3-n") * 10 + grows.goesTo(0), 13);
        term("others are 0;");
        StampRoad zero = land(2, "1");
        zero.step(1, 0);
        zero.file(1, 10, 10);
        way(zero, 0, "w9(1=1)");
        months(zero, 3);
        for (String letter : new String[] {"r", "c", "h", "m", "s", "y", "x"}) {
            gain(zero, letter);
            due(letter + " is not above 0", zero.goesTo(0), 0);
            due(letter + " is not below 0", zero.goesTo(3), 3);
        }
    }

    private static void wants() {
        term("A CLERK WANTS to take if GAIN is above 0, not to if it is below.");
        due("1", land(1, "1").goesTo(0), 1);
        due("0: as he does", land(1, "0").goesTo(0), 0);
        due("0: as he does", land(1, "0").goesTo(1), 1);
        due("-1", land(1, "0-1").goesTo(1), 0);
        term("A REST: a set of CLERKS who take, in which nobody wants otherwise than he does.");
        due("all as they want", land(3, "1-i").rest(3), 1);
        due("he of 0 does not take", land(3, "1-i").rest(1), 1);
        due("one who should takes not", land(3, "1-i").rest(2), 0);
        due("one who should not takes", land(3, "1-i").rest(7), 0);
    }

    private static void rest() {
        promise(15, "Whether a set of CLERKS is a REST: 1, 0;");
        StampRoad road = land(3, "o*2-3");
        due("nobody", road.rest(0), 1);
        due("all", road.rest(7), 1);
        due("two", road.rest(6), 0);
        due("no CLERKS, the empty set", land(0, "1").rest(0), 1);
        due("all ten", land(10, "1").rest(1023), 1);
        promise(15, "NONE: no such set,");
        due("set -1", road.rest(-1), -1);
        due("set 8 of three", road.rest(8), -1);
        due("set 9 of three", road.rest(9), -1);
        due("set most", road.rest(Integer.MAX_VALUE), -1);
        due("set least", road.rest(Integer.MIN_VALUE), -1);
        due("set 1024 of ten", land(10, "1").rest(1024), -1);
        due("set 1 of none", land(0, "1").rest(1), -1);
        promise(15, "no GAIN.");
        due("no GAIN", withClerks(3).rest(0), -1);
    }

    private static void rests() {
        promise(16, "What NONE how many RESTS there are,");
        due("two", land(3, "o*2-3").rests(-1), 2);
        due("each", land(10, "0").rests(-1), 1024);
        due("none", land(2, "[o*2-1]*[1-i*2]").rests(-1), 0);
        due("no CLERKS", land(0, "1").rests(-1), 1);
        promise(16, "else the one at place what by numbers of sets (from 0 on);");
        due("the first", land(3, "o*2-3").rests(0), 0);
        due("the second", land(3, "o*2-3").rests(1), 7);
        due("in the midst", land(10, "0").rests(500), 500);
        due("the last", land(10, "0").rests(1023), 1023);
        promise(16, "NONE: no GAIN,");
        due("how many", withClerks(3).rests(-1), -1);
        due("the first", withClerks(3).rests(0), -1);
        promise(16, "there is none such.");
        due("the third of two", land(3, "o*2-3").rests(2), -1);
        due("behind the last", land(10, "0").rests(1024), -1);
        due("place -2", land(10, "0").rests(-2), -1);
        due("the first of none", land(2, "[o*2-1]*[1-i*2]").rests(0), -1);
        due("place most", land(10, "0").rests(Integer.MAX_VALUE), -1);
        due("place least", land(10, "0").rests(Integer.MIN_VALUE), -1);
    }

    private static void goesTo() {
        term("GOES TO from a set: again and again, by numbers, each CLERK changes if he wants otherwise"
            + " (with the others as they are then),");
        due("0 goes first: then 1 need not", land(2, "1-o*2").goesTo(0), 1);
        due("0 goes first: he does not take any more", land(2, "1-o*2").goesTo(3), 2);
        due("0 goes first: then 1 wants to, too", land(3, "o*2+1-i").goesTo(0), 7);
        due("2 alone, then in a second round all", land(3, "o*2+i-1").goesTo(0), 7);
        term("till in a whole round nobody does: that REST; none behind 100 rounds.");
        StampRoad slow = slowLand();
        due("in the 100th round nobody changes", slow.goesTo(IN_100_ROUNDS), 6);
        due("in the 101st", slow.goesTo(IN_101_ROUNDS), -2);
        due("a REST itself", slow.goesTo(6), 6);
        promise(17, "Which REST a set GOES TO;");
        due("back to nobody", land(3, "o*2-3").goesTo(1), 0);
        due("on to all", land(3, "o*2-3").goesTo(6), 7);
        due("no CLERKS", land(0, "1").goesTo(0), 0);
        promise(17, "-2: none;");
        due("they never rest", land(2, "[o*2-1]*[1-i*2]").goesTo(0), -2);
        promise(17, "NONE: no such set,");
        due("set -1", land(3, "1").goesTo(-1), -1);
        due("set 8 of three", land(3, "1").goesTo(8), -1);
        due("set 1024 of ten", land(10, "1").goesTo(1024), -1);
        due("set least", land(3, "1").goesTo(Integer.MIN_VALUE), -1);
        promise(17, "no GAIN.");
        due("no GAIN", withClerks(3).goesTo(0), -1);
    }

    private static void turned() {
        term("TURNED: from a set, the fewest CLERKS who must be changed at once");
        StampRoad four = land(4, "o*2-3");
        due("two turn it, though not 0 with another", four.turned(0, 15), 6);
        due("one more", four.turned(4, 15), 2);
        due("nobody: it GOES there", four.turned(12, 15), 0);
        due("nobody: it is there", four.turned(15, 15), 0);
        term("(of like ones the least set)");
        due("1 of 1, 2, 4 and 8", land(4, "o*2-1").turned(0, 15), 2);
        due("3 with 1 or 2, or 2 with 1: of those changed, not of the set then", four.turned(15, 0), 6);
        term("so that it GOES TO a told REST.");
        StampRoad slow = slowLand();
        due("of itself, in 100 rounds", slow.turned(IN_100_ROUNDS, 6), 0);
        due("not of itself, in 101", slow.turned(IN_101_ROUNDS, 6), 2);
        promise(18, "TURNED from a set to a REST: who must be changed, as bits;");
        StampRoad stiff = land(10, "0");
        due("just those who differ", stiff.turned(0x155, 0x2aa), 0x3ff);
        due("the last alone", stiff.turned(511, 1023), 512);
        due("no CLERKS", land(0, "1").turned(0, 0), 0);
        promise(18, "-2: none do;");
        // To change just those who differ always leads to a REST, so this can't come about.
        due("never", stiff.turned(1023, 0), 1023);
        promise(18, "NONE: no such sets,");
        due("from -1", four.turned(-1, 0), -1);
        due("from 16 of four", four.turned(16, 0), -1);
        due("to -1", four.turned(0, -1), -1);
        due("to 16 of four", four.turned(0, 16), -1);
        due("from least", four.turned(Integer.MIN_VALUE, 0), -1);
        due("to most", four.turned(0, Integer.MAX_VALUE), -1);
        promise(18, "no GAIN,");
        due("no GAIN", withClerks(4).turned(0, 0), -1);
        promise(18, "it is no REST.");
        due("to two of four", four.turned(0, 3), -1);
        due("from there to there", four.turned(3, 3), -1);
        due("from there to a REST", four.turned(3, 0) >= 0, true);
    }
}
