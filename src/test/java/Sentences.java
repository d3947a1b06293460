import java.io.IOException;
import java.nio.file.Files;
import java.nio.file.Path;
import java.util.ArrayList;
import java.util.LinkedHashMap;
import java.util.List;
import java.util.Map;
import java.util.function.Consumer;

/**
 * Tests of single sentences: each names the section of the document and the sentence (or the part of one) that it
 * holds. At the end every quote is looked up in the document, so that no test speaks of words that are not there.
 */
final class Sentences {
    private static final Path DOCUMENT = Path.of("../shared/DOC.md");
    private final Map<String, List<String>> quotes = new LinkedHashMap<>();
    private String section = "";
    private String sentence = "";
    private int tests = 0;
    private int wrong = 0;

    void promise(int number, String quote, Consumer<Sentences> test) {
        holds("Promise " + number, quote, test);
    }

    void holds(String where, String quote, Consumer<Sentences> test) {
        section = where;
        sentence = quote;
        tests++;
        quotes.computeIfAbsent(where, key -> new ArrayList<>()).add(quote);
        test.accept(this);
    }

    void due(String call, long got, long want) {
        if (got != want) {
            complain(call + " answered " + got + ", due is " + want);
        }
    }

    void dueRatio(String call, long above, long below, long wantAbove, long wantBelow) {
        due(call + ", part 0", above, wantAbove);
        due(call + ", part 1", below, wantBelow);
    }

    void same(String what, String got, String want) {
        if (!got.equals(want)) {
            complain(what + ": seen is " + got + ", due is " + want);
        }
    }

    void complain(String text) {
        wrong++;
        System.out.println(section + ", \"" + sentence + "\": " + text);
    }

    /** Those sections that are to be tested whole must have each of their words within a quote. */
    void end(String... whole) throws IOException {
        if (Files.isReadable(DOCUMENT)) {
            compareWithDocument(Files.readString(DOCUMENT), List.of(whole));
        } else {
            System.out.println("the quotes are not compared: there is no " + DOCUMENT);
        }
        System.out.println(tests + " tests of sentences, " + wrong + " complaints");
        if (wrong != 0) {
            System.exit(1);
        }
    }

    private void compareWithDocument(String document, List<String> whole) {
        for (String where : whole) {
            quotes.computeIfAbsent(where, key -> new ArrayList<>());
        }
        for (Map.Entry<String, List<String>> entry : quotes.entrySet()) {
            section = entry.getKey();
            String rest = sectionOf(document, section);
            for (String quote : entry.getValue()) {
                sentence = quote;
                if (!sectionOf(document, section).contains(quote)) {
                    complain("the document does not say so there");
                }
                rest = rest.replace(quote, " ".repeat(quote.length()));
            }
            sentence = "";
            if (whole.contains(section) && !rest.isBlank()) {
                complain("no test names: " + rest.trim().replaceAll(" +", " "));
            }
        }
    }

    private static String sectionOf(String document, String where) {
        for (String each : document.split("(?m)^## ")) {
            if (each.startsWith(where + ":") || each.startsWith(where + "\n")) {
                String text = each.substring(each.indexOf('\n'));
                return text.replaceAll("\\s+", " ").trim().replaceFirst("^`[^`]*`: ", "");
            }
        }
        return "";
    }
}
