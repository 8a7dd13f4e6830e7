import java.io.IOException;
import java.nio.file.Files;
import java.nio.file.Path;
import java.util.Map;
import java.util.TreeMap;

/**
 * The sentences of the document, as the tests quote them. A quote that is not in the document
 * is a fault of the test, and so is a sentence of the document that no test quotes.
 */
final class Sentence {
    private static final Path DOC = Path.of("..", "shared", "DOC.md");
    /** The parts ahead of the promises. */
    private static final int TERMS = 0;
    /** What stands under each promise and has not been quoted yet; empty without a document. */
    private static final Map<Integer, String> LEFT = read();

    private Sentence() {
    }

    /** The answers from here on are about a sentence that stands under a promise. */
    static void of(int promise, String words) {
        Check.about("promise " + promise + " \"" + words + "\"");
        quote(promise, words);
    }

    /** About a sentence of the terms, tried by the calls of a promise. */
    static void ofTerms(int promise, String words) {
        Check.about("terms, by promise " + promise + " \"" + words + "\"");
        quote(TERMS, words);
    }

    /** A sentence that says nothing of what a call does. */
    static void saysNothing(String words) {
        quote(TERMS, words);
    }

    static void allQuoted() {
        Check.about("the document");
        for (int part : LEFT.keySet()) {
            String left = LEFT.get(part).replaceAll("[#:;. ]", "");
            Check.due("promise " + part + ", not quoted \"" + left + "\"", left.isEmpty(), true);
        }
    }

    private static void quote(int part, String words) {
        if (LEFT.isEmpty()) {
            return;
        }
        String left = LEFT.getOrDefault(part, "");
        Check.due("it stands in the document, and is quoted once", left.contains(words), true);
        LEFT.put(part, left.replace(words, "#"));
    }

    private static Map<Integer, String> read() {
        Map<Integer, String> parts = new TreeMap<>();
        if (!Files.isReadable(DOC)) {
            return parts;
        }
        try {
            int part = -1;
            for (String line : Files.readAllLines(DOC)) {
                if (line.startsWith("## ")) {
                    part = partOf(line);
                } else if (part >= 0) {
                    parts.merge(part, withoutNames(line), (a, b) -> (a + " " + b).trim());
                }
            }
        } catch (IOException e) {
            throw new IllegalStateException(e);
        }
        return parts;
    }

    private static int partOf(String heading) {
        if (heading.equals("## What it is") || heading.equals("## Terms")) {
            return TERMS;
        }
        if (heading.startsWith("## Promise ")) {
            return Integer.parseInt(heading.substring(11, heading.indexOf(':')));
        }
        return -1;
    }

    /** Without the signature or the parameter's name that a line of a promise begins with. */
    private static String withoutNames(String line) {
        return line.replaceFirst("^(- )?`[^`]*`: ", "").trim();
    }
}
