import java.io.IOException;
import java.nio.file.Files;
import java.nio.file.Path;
import java.util.ArrayList;
import java.util.List;
import java.util.Map;
import java.util.TreeMap;
import java.util.regex.Pattern;

/**
 * Tests that each belong to a sentence of the document. The sentence must stand there word by word, its test must
 * ask something, and no line of a promise that names a boundary may be left without a test.
 */
final class Edges {
    /** Lines of a promise that name a range, an index, what is answered where there is nothing, or an exception. */
    private static final Pattern BOUNDARY =
        Pattern.compile("^(- `\\w+`: .*(\\d|index|number of a template|from 0).*|Throws .*|Returns .*(;|\\d).*)$");

    final Check check = new Check();
    final Twins twins = new Twins(check);
    private final Map<String, String> sections = new TreeMap<>();
    private final Map<String, List<String>> quotes = new TreeMap<>();

    Edges() {
        try {
            for (String section : Files.readString(Path.of("../shared/DOC.md")).split("(?m)^## ")) {
                sections.put(section.split("[:\n]")[0], section);
            }
        } catch (IOException e) {
            check.report("the document cannot be read: " + e);
        }
    }

    void terms(String quote, Runnable test) {
        of("Terms", quote, test);
    }

    void promise(int number, String quote, Runnable test) {
        of("Promise " + number, quote, test);
    }

    private static String plain(String text) {
        return text.replaceAll("\\s+", " ").trim();
    }

    private void of(String section, String quote, Runnable test) {
        check.about(section + ", '" + quote + "'");
        if (!plain(sections.getOrDefault(section, "")).contains(plain(quote))) {
            check.report("the document does not say it");
        }
        quotes.computeIfAbsent(section, s -> new ArrayList<>()).add(plain(quote));
        int before = check.asked();
        test.run();
        if (check.asked() == before) {
            check.report("the test asks nothing");
        }
        check.about("");
    }

    /** Ends the tests; every boundary that these promises name must have had one. */
    void finish(int... promises) {
        for (int number : promises) {
            String section = "Promise " + number;
            for (String line : sections.getOrDefault(section, "").split("\n")) {
                if (BOUNDARY.matcher(line).matches() && !isQuoted(section, plain(line))) {
                    check.report(section + " has no test for: " + line);
                }
            }
        }
        check.finish();
    }

    private boolean isQuoted(String section, String line) {
        for (String quote : quotes.getOrDefault(section, List.of())) {
            if (line.contains(quote)) {
                return true;
            }
        }
        return false;
    }
}
