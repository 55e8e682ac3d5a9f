import java.io.IOException;
import java.io.UncheckedIOException;
import java.nio.file.Files;
import java.nio.file.Path;

/**
 * Which words of the document have a test of their own. Each edge test quotes the words that it tests; words that
 * nobody quotes, and quotes that are not the document's, are told at the end.
 */
final class Sentences {
    private static final Path DOCUMENT = Path.of("../shared/DOC.md");
    static final int TERMS = 0;

    private final String[] sections = new String[33];
    private final boolean[][] quoted = new boolean[33][];
    int wrong = 0;

    Sentences() {
        String document = read();
        for (int k = 0; k < sections.length; k++) {
            String head = k == TERMS ? "## Terms\n" : "## Promise " + k + ":";
            String next = k == 32 ? "## Not promised" : "## Promise " + (k + 1) + ":";
            String section = document.substring(document.indexOf(head) + head.length(), document.indexOf(next));
            sections[k] = plain(k == TERMS ? section : section.substring(section.indexOf("`: ") + 3));
            quoted[k] = new boolean[sections[k].length()];
        }
    }

    private static String read() {
        try {
            return Files.readString(DOCUMENT);
        } catch (IOException e) {
            throw new UncheckedIOException(e);
        }
    }

    private static String plain(String words) {
        return words.replace("```text", " ").replaceAll("==== \\d\\.", " ").replace("`", "").replaceAll("\\s+", " ").strip();
    }

    /** The first place of that section where these words stand and were not quoted yet. */
    void quote(int section, String words) {
        String looked = plain(words);
        int found = -1;
        for (int at = sections[section].indexOf(looked); at >= 0; at = sections[section].indexOf(looked, at + 1)) {
            if (found < 0 || quoted[section][found]) {
                found = at;
            }
        }
        if (found < 0) {
            wrong++;
            System.out.println("the document does not say (promise " + section + "): " + words);
            return;
        }
        for (int k = 0; k < looked.length(); k++) {
            quoted[section][found + k] = true;
        }
    }

    /** Tells what nobody quoted. */
    void tellRest() {
        for (int k = 0; k < sections.length; k++) {
            StringBuilder rest = new StringBuilder();
            for (int at = 0; at < sections[k].length(); at++) {
                rest.append(quoted[k][at] ? ' ' : sections[k].charAt(at));
            }
            String left = rest.toString().replaceAll("\\s+", " ").strip();
            if (left.matches(".*[A-Za-z0-9].*")) {
                wrong++;
                System.out.println("no test of its own (promise " + k + "): " + left);
            }
        }
    }
}
