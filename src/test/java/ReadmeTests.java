import java.io.File;
import java.io.IOException;
import java.nio.file.Files;
import java.nio.file.Path;
import java.util.ArrayList;
import java.util.List;
import java.util.Map;
import java.util.TreeMap;
import java.util.regex.Matcher;
import java.util.regex.Pattern;
import java.util.stream.Stream;

/** README.md by itself: one who does what it says gets what it says, and it names what the document names. */
public final class ReadmeTests {
    private static final Path README = Path.of("README.md");
    private static final Path DOCUMENT = Path.of("../shared/DOC.md");
    private static final String CLASS = "src/main/java/TwoTuesdays.java";
    private static final List<String> FINDINGS =
        List.of("BEYOND", "FULL", "KIND", "NONE", "STATE", "MISSING", "SIZE");
    private static final int LOW = -1000001;
    /** A line of an example: perhaps a name, a call, and its answer behind the two strokes. */
    private static final Pattern ANSWER = Pattern.compile("^(?:int (\\w+) = )?(.*);\\s*// (-?\\d+)\\b.*$");

    private static int checks = 0;
    private static int wrong = 0;

    private static void due(String what, Object got, Object want) {
        checks++;
        if (!got.equals(want)) {
            wrong++;
            System.out.println(what + " is " + got + ", due is " + want);
        }
    }

    public static void main(String[] args) throws Exception {
        String page = Files.readString(README);
        String document = Files.readString(DOCUMENT);
        due("the calls", List.copyOf(callsOf(page).keySet()), List.copyOf(promisesOf(document).keySet()));
        due("the findings of the calls", callsOf(page), promisesOf(document));
        findings(page);
        testsAreNamed(page);
        Path place = Files.createTempDirectory("readme");
        try {
            copyTree(Path.of("src"), place.resolve("src"));
            theProgram(page, place);
            oneTestAlone(page, place);
            examples(page, place);
        } finally {
            removeTree(place);
        }
        if (wrong != 0) {
            System.exit(1);
        }
        System.out.println("all " + checks + " checks of README.md are as due");
    }

    /** The calls of the page's tables, as "go(n)", each with the findings that stand behind it, in their order. */
    private static Map<String, List<String>> callsOf(String page) {
        Map<String, List<String>> calls = new TreeMap<>();
        Matcher row = Pattern.compile("^\\| `(\\w+\\([^)]*\\))` \\|[^|]*\\|([^|]*)\\|$", Pattern.MULTILINE).matcher(page);
        while (row.find()) {
            calls.put(row.group(1), findingsIn(row.group(2), ""));
        }
        return calls;
    }

    /** The same of the document: a finding begins a sentence there. */
    private static Map<String, List<String>> promisesOf(String document) {
        Map<String, List<String>> promises = new TreeMap<>();
        Matcher one = Pattern.compile("^`(?:int|long) (\\w+\\([^)]*\\))`: (.*)$", Pattern.MULTILINE).matcher(document);
        while (one.find()) {
            promises.put(one.group(1).replaceAll("int (\\w+)", "$1"), findingsIn(one.group(2), "(?<=\\. )"));
        }
        due("how many calls the document has", promises.size(), 43);
        return promises;
    }

    private static List<String> findingsIn(String text, String ahead) {
        List<String> found = new ArrayList<>();
        Matcher word = Pattern.compile(ahead + "\\b(" + String.join("|", FINDINGS) + ")\\b").matcher(text);
        while (word.find()) {
            found.add(word.group(1));
        }
        return found;
    }

    private static void findings(String page) {
        for (int i = 0; i < FINDINGS.size(); i++) {
            due("the row of " + FINDINGS.get(i), page.contains("| " + (LOW - i) + " | " + FINDINGS.get(i) + " | "), true);
        }
    }

    private static void testsAreNamed(String page) throws IOException {
        try (Stream<Path> tests = Files.list(Path.of("src/test/java"))) {
            for (Path test : tests.toList()) {
                String name = test.getFileName().toString().replace(".java", "");
                due(name + " is told of", page.contains("- `" + name + "`: "), true);
            }
        }
    }

    private static List<String> blocksOf(String page, String language) {
        List<String> blocks = new ArrayList<>();
        Matcher block = Pattern.compile("^```" + language + "\n(.*?)^```$", Pattern.MULTILINE | Pattern.DOTALL).matcher(page);
        while (block.find()) {
            blocks.add(block.group(1));
        }
        return blocks;
    }

    private static String blockWith(String page, String language, String words) {
        List<String> blocks = blocksOf(page, language);
        blocks.removeIf(block -> !block.contains(words));
        due(language + " blocks with '" + words + "'", blocks.size(), 1);
        return blocks.isEmpty() ? "exit 1\n" : blocks.get(0);
    }

    private static void theProgram(String page, Path place) throws Exception {
        Files.writeString(place.resolve("Walk.java"), blockWith(page, "java", "class Walk"));
        due("what Walk prints", printedBy(blockWith(page, "sh", "Walk"), place), blockWith(page, "text", "ann"));
    }

    private static void oneTestAlone(String page, Path place) throws Exception {
        String printed = printedBy(blockWith(page, "sh", "EdgeTests"), place);
        due("what EdgeTests prints ends well: " + printed, printed.endsWith("are as due\n"), true);
    }

    /** Each example becomes a program that prints the lines whose answer isn't the number behind them. */
    private static void examples(String page, Path place) throws Exception {
        List<String> examples = blocksOf(page, "java");
        examples.removeIf(block -> block.contains("class "));
        due("how many examples", examples.size(), 3);
        for (String example : examples) {
            Files.writeString(place.resolve("Example.java"), programOf(example));
            due("what is wrong in\n" + example, printedBy("mkdir -p out\njavac -d out " + CLASS
                + " Example.java\njava -cp out Example\n", place), "");
        }
    }

    private static String programOf(String example) {
        StringBuilder program = new StringBuilder("public class Example {\n"
            + "static void due(String line, long got, long want) {\n"
            + "if (got != want) System.out.println(line + \" answered \" + got);\n}\n"
            + "public static void main(String[] args) {\n");
        int answers = 0;
        for (String line : example.split("\n")) {
            Matcher told = ANSWER.matcher(line);
            boolean isTold = told.find();
            answers += isTold ? 1 : 0;
            program.append(isTold ? checkOf(told, "answer" + answers) : line).append('\n');
        }
        due("the example tells answers", answers > 5, true);
        return program.append("}\n}\n").toString();
    }

    private static String checkOf(Matcher told, String spare) {
        String name = told.group(1) == null ? spare : told.group(1);
        String type = told.group(1) == null ? "long" : "int";
        return type + " " + name + " = " + told.group(2) + ";\n"
            + "due(\"" + told.group(2) + "\", " + name + ", " + told.group(3) + ");";
    }

    private static String printedBy(String commands, Path place) throws Exception {
        Process process = new ProcessBuilder("bash", "-e", "-c", commands).directory(place.toFile())
            .redirectErrorStream(true).start();
        process.getOutputStream().close();
        String printed = new String(process.getInputStream().readAllBytes(), "UTF-8");
        due("exit code of:\n" + commands + printed, process.waitFor(), 0);
        return printed;
    }

    private static void copyTree(Path from, Path to) throws IOException {
        try (Stream<Path> all = Files.walk(from)) {
            for (Path one : all.filter(Files::isRegularFile).toList()) {
                Path there = to.resolve(from.relativize(one));
                Files.createDirectories(there.getParent());
                Files.copy(one, there);
            }
        }
    }

    private static void removeTree(Path top) throws IOException {
        try (Stream<Path> all = Files.walk(top)) {
            all.sorted(java.util.Comparator.reverseOrder()).map(Path::toFile).forEach(File::delete);
        }
    }
}
