import java.io.IOException;
import java.nio.file.Files;
import java.nio.file.Path;
import java.util.Arrays;
import java.util.HashSet;
import java.util.LinkedHashMap;
import java.util.Map;
import java.util.Set;

/**
 * The document's own words. A test is begun by the sentence that it is for; the words that no
 * test is for are told, so that none is left out.
 */
final class Document {
    private static final Map<String, String> SECTIONS = new LinkedHashMap<>();
    private static final Map<String, boolean[]> QUOTED = new LinkedHashMap<>();
    private static final Set<String> NAMED = new HashSet<>();

    private Document() {
    }

    static void read(Path path) throws IOException {
        String heading = "";
        StringBuilder text = new StringBuilder();
        for (String line : Files.readAllLines(path)) {
            if (line.startsWith("#")) {
                keep(heading, text.toString());
                heading = line.replaceFirst("#+ ", "");
                text.setLength(0);
            } else {
                text.append(line).append('\n');
            }
        }
        keep(heading, text.toString());
    }

    private static void keep(String heading, String text) {
        SECTIONS.put(heading, text);
        QUOTED.put(heading, new boolean[text.length()]);
    }

    /** Runs the test that would fail if this sentence alone were broken. */
    static void holds(String heading, String sentence, Runnable test) {
        String name = heading + ", \"" + sentence + "\"";
        quote(heading, sentence, name);
        Checks.holds(name + ": this sentence has a test of its own", NAMED.add(name));
        int before = Checks.passed() + Checks.failed();
        Checks.group(name, test);
        Checks.holds(name + ": something is tested", Checks.passed() + Checks.failed() > before);
    }

    /** These words ask for nothing that a call could answer wrongly. */
    static void asksNothing(String heading, String words) {
        quote(heading, words, heading + ", \"" + words + "\"");
    }

    private static void quote(String heading, String sentence, String name) {
        if (SECTIONS.isEmpty()) {
            return;
        }
        String text = SECTIONS.getOrDefault(heading, "");
        int at = text.indexOf(sentence);
        Checks.holds(name + ": the document says this there", at >= 0);
        if (at >= 0) {
            Arrays.fill(QUOTED.get(heading), at, at + sentence.length(), true);
        }
    }

    /** Fails for each section that has words without a test. */
    static void nothingIsLeftOut() {
        for (Map.Entry<String, String> section : SECTIONS.entrySet()) {
            String heading = section.getKey();
            String left = wordsLeft(section.getValue(), QUOTED.get(heading));
            Checks.holds(heading + ": no test is for \"" + left + "\"", left.isEmpty());
        }
    }

    private static String wordsLeft(String text, boolean[] quoted) {
        StringBuilder left = new StringBuilder();
        for (int i = 0; i < text.length(); i++) {
            left.append(quoted[i] ? ' ' : text.charAt(i));
        }
        return left.toString().replaceAll("[\\s-]+", " ").trim();
    }
}
