/** What the tests share: answers that are due, TEXTS put on the tape, lands to begin with. */
abstract class Checks {
    static final int NOT_A_CLERK = -1000000000;

    static int wrong = 0;
    private static String about = "";

    /** What the answers from here on are about. */
    static void about(String what) {
        about = what;
    }

    static void due(String call, int got, int want) {
        if (got != want) {
            wrong++;
            System.out.println(about + ": " + call + " answered " + got + ", due is " + want);
        }
    }

    static void due(String call, boolean got, boolean want) {
        due(call, got ? 1 : 0, want ? 1 : 0);
    }

    static void finish(String whenRight) {
        System.out.println(wrong == 0 ? whenRight : wrong + " answers are not as due");
        if (wrong != 0) {
            System.exit(1);
        }
    }

    static void put(StampRoad road, String text) {
        StringBuilder padded = new StringBuilder(text);
        while (padded.length() % 20 != 0) {
            padded.append('?');
        }
        for (int k = 0; k < padded.length(); k += 20) {
            int[] five = new int[5];
            for (int j = 0; j < 20; j++) {
                five[j / 4] = five[j / 4] << 8 | padded.charAt(k + j);
            }
            road.feed(five[0], five[1], five[2], five[3], five[4]);
        }
    }

    static int way(StampRoad road, int i, String text) {
        put(road, text);
        return road.way(i, text.length());
    }

    static int law(StampRoad road, String text) {
        put(road, text);
        return road.law(text.length());
    }

    static int gain(StampRoad road, String text) {
        put(road, text);
        return road.gain(text.length());
    }

    static StampRoad withClerks(int n) {
        StampRoad road = new StampRoad();
        for (int i = 0; i < n; i++) {
            road.clerk(100 * i, 10 * i);
        }
        return road;
    }

    /** One STEP with CLERK 0 alone, whose WAY is told. */
    static StampRoad oneStep(String text) {
        StampRoad road = withClerks(1);
        road.step(1, 0);
        due("way " + text, way(road, 0, text) > 0, true);
        return road;
    }

    /** The price that "a" and this E come to, for a FILE with COIN 500. */
    static void worth(String sum, int want) {
        StampRoad road = oneStep("a" + sum + "(1=1)");
        road.file(1, 500, 9);
        due(sum, road.asks(0, 0, 0), want);
    }

    /** Whether a C holds, for such a FILE. */
    static void holds(String condition, boolean want) {
        StampRoad road = oneStep("a7(" + condition + ")");
        road.file(1, 500, 9);
        due(condition, road.asks(0, 0, 0), want ? 7 : 0);
    }

    static void months(StampRoad road, int n) {
        for (int y = 0; y < n; y++) {
            road.month();
        }
    }
}
