import java.io.IOException;
import java.lang.reflect.InvocationTargetException;
import java.lang.reflect.Method;
import java.lang.reflect.Modifier;
import java.nio.file.Files;
import java.nio.file.Path;
import java.util.ArrayList;
import java.util.Arrays;
import java.util.LinkedHashMap;
import java.util.List;
import java.util.Map;
import java.util.TreeSet;
import java.util.regex.Matcher;
import java.util.regex.Pattern;

/**
 * README.md says the document's words for every call, its example answers what it says, and its
 * commands are the ones that .ci/run runs.
 */
public final class ReadmeTest {
    private static final Path README = Path.of("README.md");
    private static final Path RUN = Path.of(".ci", "run");
    private static final Path TESTS = Path.of("src", "test", "java");
    private static final Path DOC = Path.of("..", "shared", "DOC.md");
    private static final String MADE = "How an object is made";
    private static final String CALLS = "The calls: ";
    private static final Pattern PROMISE = Pattern.compile("Promise (\\d+): (.*)");
    private static final Pattern EXAMPLE =
            Pattern.compile("policy\\.(\\w+)\\(([0-9, ]*)\\); +// (throws )?(-?\\w+).*");
    private static final Pattern RUN_LINE = Pattern.compile("(rm|mkdir|javac|java) .*");

    private ReadmeTest() {
    }

    public static void main(String[] args) throws IOException, IllegalAccessException {
        everyCallStands();
        if (Files.isReadable(DOC)) {
            termsAreTheDocuments();
            promisesAreTheDocuments();
            limitsAreTheDocuments();
        }
        exampleAnswers();
        commandsAreTheOnesRun();
        Check.end("ReadmeTest");
    }

    // ---- the document's words

    private static void everyCallStands() throws IOException {
        Check.about("README, the calls");
        Map<String, String> readme = sections(README);
        for (Method m : FlexiblePolicy.class.getDeclaredMethods()) {
            if (Modifier.isPublic(m.getModifiers())) {
                String said = readme.getOrDefault(m.getName(), "");
                Check.due(m.getName(), said.contains(" " + m.getName() + "("), true);
            }
        }
    }

    private static void termsAreTheDocuments() throws IOException {
        Check.about("README, the terms");
        String due = sections(DOC).get("Terms");
        due = due.substring(0, due.indexOf("Ahead of the calls"));
        String said = sections(README).getOrDefault("The terms", "");
        Check.due("are the document's", asOneLine(said).equals(asOneLine(due)), true);
    }

    private static void promisesAreTheDocuments() throws IOException {
        Map<String, String> readme = sections(README);
        Map<String, String> doc = sections(DOC);
        List<String> due = new ArrayList<>();
        for (String heading : doc.keySet()) {
            Matcher promise = PROMISE.matcher(heading);
            if (promise.matches()) {
                Check.about("README, promise " + promise.group(1));
                String words = asOneLine(doc.get(heading));
                if (promise.group(1).equals("1")) {
                    String said = asOneLine(readme.getOrDefault(MADE, ""));
                    Check.due(words, said.contains(words), true);
                } else {
                    String name = promise.group(2);
                    due.add(name);
                    String said = asOneLine(readme.getOrDefault(name, ""));
                    Check.due(words, said.equals(words), true);
                }
            }
        }
        Check.about("README");
        Check.due("the calls " + calls(readme), calls(readme).equals(due), true);
    }

    /** The headings below those of the calls, in their order. */
    private static List<String> calls(Map<String, String> readme) {
        List<String> names = new ArrayList<>();
        boolean below = false;
        for (String heading : readme.keySet()) {
            if (heading.startsWith(CALLS)) {
                below = true;
            } else if (heading.contains(" ")) {
                below = false;
            } else if (below) {
                names.add(heading);
            }
        }
        return names;
    }

    private static void limitsAreTheDocuments() throws IOException {
        Check.about("README, how an object is made");
        String doc = asOneLine(Files.readString(DOC));
        String said = asOneLine(sections(README).getOrDefault(MADE, ""));
        for (String words : new String[] {
            "An object is used for at most 512 calls after it has been made; "
                    + "what later calls answer is free.",
            "Use of one object from several threads at once is not promised to be safe.",
        }) {
            Check.due(words, said.contains(words) && doc.contains(words), true);
        }
    }

    // ---- the example

    private static void exampleAnswers() throws IOException, IllegalAccessException {
        Check.about("README, the example");
        List<String> lines = block("```java");
        Check.due("it has lines", lines.size() > 1, true);
        FlexiblePolicy policy = new FlexiblePolicy();
        for (int i = 0; i < lines.size(); i++) {
            String line = lines.get(i);
            if (i == 0) {
                boolean made = line.equals("FlexiblePolicy policy = new FlexiblePolicy();");
                Check.due(line, made, true);
                continue;
            }
            Matcher row = EXAMPLE.matcher(line);
            Check.due("a call and its answer: " + line, row.matches(), true);
            if (row.matches()) {
                String want = row.group(3) == null ? row.group(4) : "throws " + row.group(4);
                String got = answer(policy, row.group(1), row.group(2));
                Check.due(line + " answers " + got, got.equals(want), true);
            }
        }
    }

    private static String answer(FlexiblePolicy policy, String name, String amounts)
            throws IllegalAccessException {
        Object[] given = Arrays.stream(amounts.split(", *")).filter(a -> !a.isEmpty())
                .map(Integer::valueOf).toArray();
        for (Method m : FlexiblePolicy.class.getDeclaredMethods()) {
            if (m.getName().equals(name) && m.getParameterCount() == given.length) {
                try {
                    return String.valueOf(m.invoke(policy, given));
                } catch (InvocationTargetException e) {
                    return "throws " + e.getCause().getClass().getSimpleName();
                }
            }
        }
        return "no such call";
    }

    // ---- the commands

    private static void commandsAreTheOnesRun() throws IOException {
        Check.about("README, the commands");
        TreeSet<String> said = new TreeSet<>();
        List<String> lines = block("```sh");
        for (String line : lines) {
            said.add(withoutTestName(line));
        }
        TreeSet<String> run = new TreeSet<>();
        for (String line : Files.readAllLines(RUN)) {
            String command = line.trim().replace("\"", "").replaceFirst(" \\|\\| .*$", "");
            if (RUN_LINE.matcher(command).matches()) {
                run.add(command);
            }
        }
        Check.due("said " + said + ", run " + run, said.equals(run), true);
        String[] files = TESTS.toFile().list((where, name) -> name.endsWith("Test.java"));
        for (String file : files) {
            String name = file.substring(0, file.length() - ".java".length());
            boolean stands = lines.contains("java -cp build/main:build/test " + name);
            Check.due("the one for " + name, stands, true);
        }
    }

    private static String withoutTestName(String command) {
        if (command.startsWith("javac ")) {
            return command.replaceFirst("(\\.\\./shared/tests/)\\w+\\.java$", "$1\\$NAME.java");
        }
        return command.startsWith("java ") ? command.replaceFirst("\\w+$", "\\$NAME") : command;
    }

    // ---- how the pages are read

    /** What stands under each heading, in the page's order. */
    private static Map<String, String> sections(Path page) throws IOException {
        Map<String, String> bodies = new LinkedHashMap<>();
        String heading = "";
        for (String line : Files.readAllLines(page)) {
            if (line.startsWith("## ") || line.startsWith("### ")) {
                heading = line.replaceFirst("#+ ", "");
                bodies.put(heading, "");
            } else {
                bodies.merge(heading, line + "\n", String::concat);
            }
        }
        return bodies;
    }

    /** The lines between this one and the next that ends a block. */
    private static List<String> block(String start) throws IOException {
        List<String> lines = new ArrayList<>();
        boolean inside = false;
        for (String line : Files.readAllLines(README)) {
            if (line.equals(start)) {
                inside = true;
            } else if (line.equals("```")) {
                inside = false;
            } else if (inside) {
                lines.add(line);
            }
        }
        return lines;
    }

    /** Where a line is broken or a list begins does not matter. */
    private static String asOneLine(String words) {
        return words.replaceAll("(?m)^- ", "").replaceAll("\\s+", " ").trim();
    }
}
