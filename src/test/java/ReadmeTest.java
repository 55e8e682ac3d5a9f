import java.nio.file.Files;
import java.nio.file.Path;

/** The example of README.md: it must say these calls, in this order, and they must answer what it says. */
public final class ReadmeTest extends Checks {
    private static String readme;
    private static int at;

    /** The README says this next. */
    private static void says(String words) {
        int found = readme.indexOf(words, at);
        due("says " + words, found >= 0, true);
        at = Math.max(at, found + words.length());
    }

    public static void main(String[] args) throws Exception {
        about("README.md");
        readme = Files.readString(Path.of("README.md"));
        says("StampRoad road = new StampRoad();");
        StampRoad road = new StampRoad();
        says("int clerk = road.clerk(100, 10); ");
        int clerk = road.clerk(100, 10);
        says("road.step(1 << clerk, 0); ");
        due("step", road.step(1 << clerk, 0), 0);
        says("road.feed(0x61363028, 0x313d3129, 0x3b773428, 0x313d3129, 0);   // a60(1=1);w4(1=1)");
        due("feed", road.feed(0x61363028, 0x313d3129, 0x3b773428, 0x313d3129, 0), 20);
        says("road.way(clerk, 16); ");
        due("way", road.way(clerk, 16), 2);
        says("int file = road.file(1, 100, 20); ");
        int file = road.file(1, 100, 20);
        says("int paid = road.month(); ");
        says("// 60:");
        due("month", road.month(), 60);
        says("int step = road.fileIs(file, 0); ");
        says("// 1: it is DONE");
        due("fileIs", road.fileIs(file, 0), 1);
        due("count", road.count(2), 1);
        finish("the example holds");
    }
}
