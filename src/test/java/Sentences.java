import java.io.IOException;
import java.nio.charset.StandardCharsets;
import java.nio.file.Files;
import java.nio.file.Path;
import java.util.LinkedHashMap;
import java.util.Map;

/**
 * The document's words, and the tests under them. A test names the words that it holds the class
 * to; they must stand in the document, and at the end no words of its terms and promises may be
 * left without a test.
 */
final class Sentences {
    final Checks checks = new Checks();
    private final Map<String, String> texts = new LinkedHashMap<>();
    private final Map<String, boolean[]> tested = new LinkedHashMap<>();
    private int tests = 0;

    Sentences(Path document) throws IOException {
        if (!Files.exists(document)) {
            // The tests need no document; only their words can't be looked up then.
            System.out.println("no document at " + document + ": the words of the tests are not looked up");
            return;
        }
        String whole = Files.readString(document, StandardCharsets.UTF_8);
        for (String section : whole.split("(?m)^## ")) {
            int end = section.indexOf('\n');
            String heading = section.substring(0, end).trim();
            String text = wordsOf(section.substring(end));
            texts.put(heading, text);
            tested.put(heading, new boolean[text.length()]);
        }
    }

    /** Without the signs that are no words: fences, rulers, and the line of the face. */
    private static String wordsOf(String section) {
        return section.replaceAll("(?m)^```.*$", " ")
            .replaceAll("={8} [0-9]", " ")
            .replaceAll("`[^`]*`:", " ")
            .replaceAll("\\s+", " ");
    }

    Desk desk() {
        return new Desk(checks);
    }

    void test(String heading, String words, Runnable test) {
        checks.about("[" + heading + "] \"" + words + "\"");
        markTested(heading, words);
        int before = checks.made();
        try {
            test.run();
        } catch (RuntimeException thrown) {
            // The document lets no call throw: what did is told, and the other tests are run.
            checks.holds("no call throws " + thrown, false);
        }
        checks.holds("the test has checks", checks.made() > before);
        tests++;
    }

    private void markTested(String heading, String words) {
        if (texts.isEmpty()) {
            return;
        }
        String text = texts.getOrDefault(heading, "");
        int at = text.indexOf(words);
        checks.holds("these words stand in the document, once", at >= 0 && at == text.lastIndexOf(words));
        for (int i = at; at >= 0 && i < at + words.length(); i++) {
            tested.get(heading)[i] = true;
        }
    }

    void end() {
        for (String heading : texts.keySet()) {
            if (heading.equals("Terms") || heading.startsWith("Promise")) {
                checks.about("[" + heading + "]");
                String left = untested(heading);
                checks.holds("words without a test: " + left, left.isEmpty());
            }
        }
        checks.about("");
        System.out.println(tests + " tests of sentences");
        checks.end();
    }

    private String untested(String heading) {
        StringBuilder left = new StringBuilder();
        String text = texts.get(heading);
        for (int i = 0; i < text.length(); i++) {
            if (!tested.get(heading)[i]) {
                left.append(text.charAt(i));
            }
        }
        return left.toString().replaceAll("\\s+", " ").trim();
    }
}
