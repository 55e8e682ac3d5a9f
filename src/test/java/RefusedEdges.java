import java.util.LinkedHashMap;
import java.util.Map;
import java.util.function.Supplier;

/** A call that is refused, or that only asks, leaves all as it was: two lands made alike still answer alike. */
final class RefusedEdges extends Edges {
    /** A call, and what it answers. */
    interface Call {
        int on(StampRoad road);
    }

    static void run() {
        term("A call that is refused (NONE, false) changes nothing but the tape, where it is told.");
        refusedIn("a land", RefusedEdges::land, refused());
        refusedIn("a full land", RefusedEdges::fullLand, full());
        refusedIn("the last MONTH", RefusedEdges::lastMonth, Map.of("month()", StampRoad::month));
        tapeAlone();
        asking();
    }

    private static StampRoad land() {
        StampRoad road = withClerks(3);
        road.step(7, 2);
        road.step(3, 1);
        way(road, 0, "a5+y(1=1);w3(r=1)");
        way(road, 1, "a4(1=1)");
        law(road, "b9(x=5);g2(1=1)");
        gain(road, "o*2-1+i");
        road.seed(77);
        road.file(1, 50, 10);
        road.file(0, 60, 0);
        road.month();
        road.file(0, 3, 9);
        road.value(9);
        road.value(6);
        road.entry(0, 9);
        road.entry(0, 7);
        road.go(3, 90, 5, 20);
        put(road, "a7(m=0)");
        return road;
    }

    private static StampRoad fullLand() {
        StampRoad road = withClerks(10);
        for (int s = 0; s < 8; s++) {
            road.step(1023, 0);
        }
        for (int j = 0; j < 40; j++) {
            road.file(1, j, 1);
        }
        for (int k = 0; k < 60; k++) {
            road.entry(0, k);
        }
        for (int v = 0; v < 20; v++) {
            road.value(v);
        }
        for (int k = 0; k < 8; k++) {
            road.go(1, 100, 0, k);
        }
        for (int k = 0; k < 10; k++) {
            road.feed(0, 0, 0, 0, 0);
        }
        return road;
    }

    private static StampRoad lastMonth() {
        StampRoad road = withClerks(1);
        road.step(1, 2);
        way(road, 0, "w24(1=1)");
        months(road, 236);
        road.file(1, 5, 5);
        months(road, 3);
        return road;
    }

    private static Map<String, Call> refused() {
        Map<String, Call> calls = new LinkedHashMap<>();
        calls.put("clerk(1001, 0)", r -> r.clerk(1001, 0));
        calls.put("clerk(0, 101)", r -> r.clerk(0, 101));
        calls.put("step(1, 0), a FILE is", r -> r.step(1, 0));
        calls.put("step(8, 0)", r -> r.step(8, 0));
        calls.put("seed(65536)", r -> r.seed(65536) ? 1 : -1);
        calls.put("seed(-1)", r -> r.seed(-1) ? 1 : -1);
        calls.put("file(2, 0, 0)", r -> r.file(2, 0, 0));
        calls.put("file(0, 10001, 0)", r -> r.file(0, 10001, 0));
        calls.put("file(0, 0, 201)", r -> r.file(0, 0, 201));
        calls.put("way(3, 7)", r -> r.way(3, 7));
        calls.put("way(0, 21)", r -> r.way(0, 21));
        calls.put("way(0, 0)", r -> r.way(0, 0));
        calls.put("law(21)", r -> r.law(21));
        calls.put("law(0)", r -> r.law(0));
        calls.put("gain(21)", r -> r.gain(21));
        calls.put("gain(0)", r -> r.gain(0));
        calls.put("value(10001)", r -> r.value(10001));
        calls.put("entry(2, 0)", r -> r.entry(2, 0));
        calls.put("entry(0, 10001)", r -> r.entry(0, 10001));
        calls.put("go(0, 5, 0, 0)", r -> r.go(0, 5, 0, 0));
        calls.put("go(1, 5, 4, 3)", r -> r.go(1, 5, 4, 3));
        calls.put("go(1, 5, 0, 6)", r -> r.go(1, 5, 0, 6));
        calls.put("check(2)", r -> r.check(2) + 1);
        calls.put("check(-1)", r -> r.check(-1) + 1);
        calls.put("fileIs(3, 0)", r -> r.fileIs(3, 0));
        calls.put("asks(2, 1, 0)", r -> r.asks(0, 3, 0));
        calls.put("told(0, 0, 10001, 0)", r -> r.told(0, 0, 10001, 0));
        calls.put("rest(8)", r -> r.rest(8));
        calls.put("goesTo(8)", r -> r.goesTo(8));
        calls.put("turned(8, 0)", r -> r.turned(8, 0));
        calls.put("again(3)", r -> r.again(3));
        calls.put("each(12, 0)", r -> r.each(12, 0));
        return calls;
    }

    private static Map<String, Call> full() {
        Map<String, Call> calls = new LinkedHashMap<>();
        calls.put("clerk", r -> r.clerk(0, 0));
        calls.put("step", r -> r.step(1, 0));
        calls.put("file", r -> r.file(0, 0, 0));
        calls.put("feed", r -> r.feed(-1, -1, -1, -1, -1));
        calls.put("value", r -> r.value(10000));
        calls.put("entry", r -> r.entry(0, 10000));
        calls.put("go", r -> r.go(1, 1, 0, 0));
        return calls;
    }

    private static void refusedIn(String where, Supplier<StampRoad> maker, Map<String, Call> calls) {
        String want = story(maker.get());
        calls.forEach((name, call) -> {
            StampRoad road = maker.get();
            due(name + " in " + where, call.on(road), -1);
            due(name + " in " + where + " leaves all as it was", story(road).equals(want), true);
        });
    }

    /** A FAULT leaves the TEXT before, but the tape is empty then. */
    private static void tapeAlone() {
        StampRoad untouched = land();
        untouched.check(0);
        String want = story(untouched);
        Map<String, Call> calls = new LinkedHashMap<>();
        calls.put("way(0, 6)", r -> r.way(0, 6));
        calls.put("law(7)", r -> r.law(7));
        calls.put("gain(7)", r -> r.gain(7));
        calls.put("check(1)", r -> r.check(1));
        calls.forEach((name, call) -> {
            StampRoad road = land();
            due(name + " finds what is wrong", call.on(road) != -1, true);
            due(name + " empties the tape", road.count(4), 0);
            due(name + " leaves all else as it was", story(road).equals(want), true);
        });
    }

    /** To ask the same twice answers the same: asking changes nothing. */
    private static void asking() {
        StampRoad road = land();
        String first = story(road);
        due("asked again", story(road).equals(first), true);
        due("the tape is there all the same", road.way(0, 7), 1);
    }

    /** All that can be asked of a land, within the calls that an object may be used for. */
    private static String story(StampRoad road) {
        StringBuilder all = new StringBuilder();
        for (int what = 0; what < 24; what++) {
            all.append(' ').append(road.count(what));
        }
        for (int j = 0; j < 3; j++) {
            for (int what = 0; what < 7; what++) {
                all.append(' ').append(road.fileIs(j, what));
            }
            for (int i = 0; i < 2; i++) {
                all.append(' ').append(road.asks(i, j, 0)).append(' ').append(road.asks(i, j, 1));
                all.append(' ').append(road.told(i, j, 5, 0)).append(' ').append(road.told(i, j, 5, 2));
            }
        }
        for (int i = 0; i < 3; i++) {
            all.append(' ').append(road.clerkIs(i, 0)).append(' ').append(road.clerkIs(i, 1));
            all.append(' ').append(road.span(i, 0)).append(' ').append(road.span(i, 1));
        }
        for (int k = 0; k < 4; k++) {
            all.append(' ').append(road.rest(k)).append(' ').append(road.goesTo(k)).append(' ').append(road.turned(k, 0));
        }
        for (int what = 0; what < 2; what++) {
            all.append(' ').append(road.one(what)).append(' ').append(road.each(3, what));
            all.append(' ').append(road.made(what, 1)).append(' ').append(road.middle(0, 1, what));
        }
        for (int what = 0; what < 3; what++) {
            all.append(' ').append(road.again(what));
        }
        return all.append(' ').append(road.bears()).toString();
    }
}
