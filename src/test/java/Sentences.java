import java.io.IOException;
import java.nio.file.Files;
import java.nio.file.Path;
import java.util.ArrayList;
import java.util.LinkedHashMap;
import java.util.List;
import java.util.Map;

/** The document's sentences that a test names, and what was found wrong under each of them. */
final class Sentences {
    private static final Path DOCUMENT = Path.of("..", "shared", "DOC.md");

    private final Map<String, List<String>> quotes = new LinkedHashMap<>();
    private String now = "no sentence yet";
    private int named = 0;
    private int wrong = 0;

    /** What is tried from here on is tried for this sentence, in the document's own words. */
    void of(String section, String quote) {
        quotes.computeIfAbsent(section, s -> new ArrayList<>()).add(quote);
        now = section + ", \"" + quote + "\"";
        named++;
    }

    Run object() {
        return new Run(this);
    }

    /** A digit is an INNER POINT of that TIME, a B is a BOUNDARY of TIME 0. */
    Run object(String kinds) {
        Run run = object();
        for (int i = 0; i < kinds.length(); i++) {
            char kind = kinds.charAt(i);
            run.calls(kind == 'B' ? "point(true, 0) = " + i : "point(false, " + kind + ") = " + i);
        }
        return run;
    }

    void due(String what, String got, String want) {
        if (!got.equals(want)) {
            wrong(what + " answered " + got + ", due is " + want);
        }
    }

    void wrong(String text) {
        wrong++;
        System.out.println(now + ": " + text);
    }

    /** Ends the test; every word of each section must stand in a sentence that it named. */
    void end() {
        if (Files.isReadable(DOCUMENT)) {
            compareWithDocument();
        } else {
            System.out.println("no " + DOCUMENT + " here: the quotes are not compared with it");
        }
        System.out.println(wrong == 0 ? named + " sentences hold" : wrong + " answers are not as due");
        if (wrong != 0) {
            System.exit(1);
        }
    }

    private void compareWithDocument() {
        String document;
        try {
            document = Files.readString(DOCUMENT);
        } catch (IOException e) {
            throw new IllegalStateException(e);
        }
        for (Map.Entry<String, List<String>> section : quotes.entrySet()) {
            now = section.getKey();
            compareWithSection(textOf(document, section.getKey()), section.getValue());
        }
    }

    /** A section's words on one line, without its heading and the code in it. */
    private static String textOf(String document, String section) {
        for (String part : document.split("(?m)^## ")) {
            String heading = part.split("\n", 2)[0];
            if (heading.equals(section) || heading.startsWith(section + ":")) {
                return part.substring(heading.length()).replaceAll("`[^`]*`", " ").replaceAll("\\s+", " ").trim();
            }
        }
        return "";
    }

    private void compareWithSection(String text, List<String> sectionQuotes) {
        StringBuilder left = new StringBuilder(text);
        for (String quote : sectionQuotes) {
            int at = text.indexOf(quote);
            if (at < 0) {
                wrong("the document has no \"" + quote + "\" there");
            }
            for (int i = at; at >= 0 && i < at + quote.length(); i++) {
                left.setCharAt(i, ' ');
            }
        }
        String words = left.toString().replaceAll("[^A-Za-z0-9]+", " ").trim();
        if (!words.isEmpty()) {
            wrong("no test names: " + words);
        }
    }
}
