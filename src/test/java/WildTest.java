import java.lang.reflect.InvocationTargetException;
import java.lang.reflect.Method;
import java.util.Arrays;
import java.util.Comparator;
import java.util.Random;

/** Calls with any arguments in any state: nothing may throw, and what is counted stays within the document's limits. */
public final class WildTest {
    private static final int[] EDGES = {Integer.MIN_VALUE, Integer.MIN_VALUE + 1, -2, -1, 0, 1, 2, 3, 7, 8, 10, 11, 20, 24,
        40, 60, 61, 100, 160, 161, 200, 239, 240, 255, 1000, 1023, 1024, 10000, 10001, 30000, 65535, 65536,
        Integer.MAX_VALUE / 12, Integer.MAX_VALUE - 1, Integer.MAX_VALUE};
    private static final int[] MOST = {239, 10, 8, 40, 200, 20, 60, 8, 65535, 12, 10};
    private static final String SIGNS = "aawwgkb;;(()[]!&|<>=+-*/%0123456789rchmsfpinoyx";

    public static void main(String[] args) throws Exception {
        Method[] methods = StampRoad.class.getDeclaredMethods();
        Arrays.sort(methods, Comparator.comparing(Method::toString));
        int wrong = 0;
        for (int run = 0; run < 400 && wrong == 0; run++) {
            Random lot = new Random(run);
            StampRoad road = new StampRoad();
            for (int k = 0; k < 512 && wrong == 0; k++) {
                Method method = methods[lot.nextInt(methods.length)];
                if (!java.lang.reflect.Modifier.isPublic(method.getModifiers())) {
                    continue;
                }
                Object[] given = new Object[method.getParameterCount()];
                for (int p = 0; p < given.length; p++) {
                    given[p] = method.getName().equals("feed") ? someBytes(lot) : someNumber(lot, run);
                }
                try {
                    method.invoke(road, given);
                } catch (InvocationTargetException e) {
                    wrong++;
                    System.out.println("run " + run + ": " + method.getName() + Arrays.toString(given) + " threw " + e.getCause());
                }
            }
            for (int what = 0; what < MOST.length; what++) {
                int got = road.count(what);
                if (got < 0 || got > MOST[what]) {
                    wrong++;
                    System.out.println("run " + run + ": count(" + what + ") is " + got);
                }
            }
        }
        System.out.println(wrong == 0 ? "nothing threw" : "something is wrong");
        if (wrong != 0) {
            System.exit(1);
        }
    }

    private static int someNumber(Random lot, int run) {
        int kind = lot.nextInt(10);
        return kind == 0 ? lot.nextInt() : kind < 3 + run % 3 ? EDGES[lot.nextInt(EDGES.length)] : lot.nextInt(4);
    }

    private static int someBytes(Random lot) {
        int four = 0;
        for (int k = 0; k < 4; k++) {
            four = four << 8 | (lot.nextInt(30) == 0 ? lot.nextInt(256) : SIGNS.charAt(lot.nextInt(SIGNS.length())));
        }
        return four;
    }
}
