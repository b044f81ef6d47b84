import java.io.IOException;
import java.nio.file.Files;
import java.nio.file.Path;
import java.util.ArrayList;
import java.util.List;
import java.util.Map;
import java.util.Set;
import java.util.TreeMap;
import java.util.TreeSet;
import java.util.concurrent.TimeUnit;
import java.util.regex.Matcher;
import java.util.regex.Pattern;

/** README.md: its example is compiled and run as it stands there, its tables are held against the document. */
final class ReadmeTests {
    private static final Path README = Path.of("README.md");
    private static final Path DOCUMENT = Path.of("../shared/DOC.md");
    private static final Path TESTS = Path.of("src/test/java");
    private static final String EXAMPLE = "Mine";
    private static final int MOST_SECONDS = 120;

    private static final Pattern ANSWER =
            Pattern.compile("\\s*show\\((board\\..*)\\);\\s*// (-?\\d+): (([A-Z_]+), )?.*");
    private static final Pattern ERROR =
            Pattern.compile("INVALID_ARGUMENT|NOT_POSSIBLE|LIMIT_REACHED|NOT_FOUND");
    private static final Pattern RANGE = Pattern.compile("-?\\d+ to -?\\d+");

    /** A call of the example, the answer that stands behind it, and the error that is named there. */
    private static final class Claim {
        private final String call;
        private final String answer;
        private final String error;

        Claim(String call, String answer, String error) {
            this.call = call;
            this.answer = answer;
            this.error = error;
        }
    }

    private ReadmeTests() {
    }

    static void all(Checks checks) {
        checks.test("README: the example gives the answers that stand there", ReadmeTests::example);
        checks.test("README: an answer that the class does not give is found", ReadmeTests::wrongAnswers);
        checks.test("README: the constants", ReadmeTests::constants);
        checks.test("README: the methods, their arguments and errors", ReadmeTests::methods);
        checks.test("README: the ranges of the arguments", ReadmeTests::ranges);
        checks.test("README: the files of the tests", ReadmeTests::files);
    }

    private static String read(Path file) {
        try {
            return Files.readString(file);
        } catch (IOException unreadable) {
            throw new IllegalStateException("run the tests from the project's folder", unreadable);
        }
    }

    private static String program() {
        String text = read(README);
        int start = text.indexOf("```java\n");
        int end = text.indexOf("\n```\n", start);
        return start < 0 || end < 0 ? "" : text.substring(start + "```java\n".length(), end + 1);
    }

    private static List<Claim> claims(Checks due) {
        List<Claim> claims = new ArrayList<>();
        for (String line : program().split("\n")) {
            Matcher matcher = ANSWER.matcher(line);
            if (matcher.matches()) {
                claims.add(new Claim(matcher.group(1), matcher.group(2), matcher.group(4)));
            } else {
                due.holds("an answer stands behind " + line, !line.contains("board."));
            }
        }
        due.holds("the example has answers", !claims.isEmpty());
        return claims;
    }

    private static void example(Checks due) {
        List<Claim> claims = claims(due);
        for (String told : differences(claims, run(due))) {
            due.holds(told, false);
        }
        Map<String, Integer> numbers = constantsOfClass();
        for (Claim claim : claims) {
            if (claim.error != null && numbers.containsKey(claim.error)) {
                due.is(claim.call + ": " + claim.error, Integer.parseInt(claim.answer),
                        numbers.get(claim.error));
            }
        }
    }

    /** The calls whose answer on the page is not the one that was printed. */
    private static List<String> differences(List<Claim> claims, List<String> printed) {
        List<String> told = new ArrayList<>();
        if (claims.size() != printed.size()) {
            told.add(claims.size() + " answers on the page, printed were " + printed);
        }
        for (int k = 0; k < Math.min(claims.size(), printed.size()); k++) {
            if (!claims.get(k).answer.equals(printed.get(k))) {
                told.add(claims.get(k).call + " answered " + printed.get(k) + ", on the page stands "
                        + claims.get(k).answer);
            }
        }
        return told;
    }

    private static void wrongAnswers(Checks due) {
        List<Claim> claims = claims(due);
        List<String> printed = new ArrayList<>();
        for (Claim claim : claims) {
            printed.add(claim.answer);
        }
        due.holds("the same answers", differences(claims, printed).isEmpty());
        for (int k = 0; k < printed.size(); k++) {
            List<String> other = new ArrayList<>(printed);
            other.set(k, printed.get(k) + "0");
            due.is("another answer of " + claims.get(k).call, differences(claims, other).size(), 1);
        }
        due.is("an answer too few", differences(claims, printed.subList(1, 2)).isEmpty() ? 0 : 1, 1);
    }

    /** What the example prints, compiled and run by the commands of the page in a folder of its own. */
    private static List<String> run(Checks due) {
        try {
            Path folder = Files.createTempDirectory("readme");
            Path source = folder.resolve(EXAMPLE + ".java");
            Files.writeString(source, program());
            List<String> printed = new ArrayList<>();
            int commands = 0;
            for (String line : read(README).split("\n")) {
                if (line.matches("    javac? .*\\b" + EXAMPLE + "\\b.*")) {
                    printed = start(due, line.trim(), folder);
                    commands++;
                }
            }
            due.is("commands on the page", commands, 2);
            delete(folder);
            return printed;
        } catch (IOException | InterruptedException stopped) {
            throw new IllegalStateException(stopped);
        }
    }

    private static List<String> start(Checks due, String command, Path folder)
            throws IOException, InterruptedException {
        List<String> words = new ArrayList<>();
        for (String word : command.split(" ")) {
            boolean isMade = word.equals("out") || word.equals(EXAMPLE + ".java");
            words.add(isMade ? folder.resolve(word).toString() : word);
        }
        words.set(0, Path.of(System.getProperty("java.home"), "bin", words.get(0)).toString());
        Path output = folder.resolve("output.txt");
        Process process = new ProcessBuilder(words).redirectErrorStream(true)
                .redirectOutput(output.toFile()).start();
        boolean isEnded = process.waitFor(MOST_SECONDS, TimeUnit.SECONDS);
        if (!isEnded) {
            process.destroyForcibly().waitFor();
        }
        List<String> printed = Files.readAllLines(output);
        due.holds(command + " ends with exit code 0: " + printed, isEnded && process.exitValue() == 0);
        return printed;
    }

    private static void delete(Path path) throws IOException {
        if (Files.isDirectory(path)) {
            try (var inside = Files.list(path)) {
                for (Path part : inside.toList()) {
                    delete(part);
                }
            }
        }
        Files.delete(path);
    }

    private static Map<String, Integer> constantsOfClass() {
        Map<String, Integer> numbers = new TreeMap<>();
        try {
            for (var field : StrokeBoard.class.getFields()) {
                numbers.put(field.getName(), field.getInt(null));
            }
        } catch (IllegalAccessException hidden) {
            throw new IllegalStateException(hidden);
        }
        return numbers;
    }

    /** The rows of the tables of the page, by what stands in their first cell. */
    private static Map<String, String[]> rows() {
        Map<String, String[]> rows = new TreeMap<>();
        for (String line : read(README).split("\n")) {
            if (line.startsWith("| `")) {
                String[] cells = line.substring(1).split("\\|");
                rows.put(cells[0].trim().replace("`", ""), cells);
            }
        }
        return rows;
    }

    private static void constants(Checks due) {
        Map<String, String[]> rows = rows();
        for (Map.Entry<String, Integer> constant : constantsOfClass().entrySet()) {
            String[] cells = rows.get(constant.getKey());
            due.holds(constant + " stands on the page",
                    cells != null && cells[1].trim().equals(constant.getValue().toString()));
        }
    }

    /** The sections of the document's promises, by the names of their methods. */
    private static Map<String, String> promises() {
        Map<String, String> promises = new TreeMap<>();
        for (String section : read(DOCUMENT).split("\n## ")) {
            Matcher matcher = Pattern.compile("`int (\\w+)\\(").matcher(section);
            if (section.startsWith("Promise ") && matcher.find()) {
                promises.put(matcher.group(1), section);
            }
        }
        return promises;
    }

    private static String firstCell(String section) {
        Matcher matcher = Pattern.compile("`int (\\w+\\(.*?\\))`").matcher(section);
        return matcher.find() ? matcher.group(1).replace("int ", "") : "";
    }

    private static Set<String> all(Pattern pattern, String text) {
        Set<String> found = new TreeSet<>();
        Matcher matcher = pattern.matcher(text);
        while (matcher.find()) {
            found.add(matcher.group());
        }
        return found;
    }

    private static void methods(Checks due) {
        Map<String, String[]> rows = rows();
        Map<String, String> promises = promises();
        due.is("methods of the document", promises.size(), 26);
        for (String section : promises.values()) {
            String call = firstCell(section);
            String[] cells = rows.remove(call);
            due.holds(call + " stands on the page", cells != null && cells.length == 4);
            if (cells != null && cells.length == 4) {
                due.holds("the errors of " + call, all(ERROR, cells[3]).equals(all(ERROR, section)));
            }
        }
        for (String left : rows.keySet()) {
            due.holds(left + " is no method of the document", !left.contains("("));
        }
    }

    private static void ranges(Checks due) {
        Map<String, String[]> rows = rows();
        for (String section : promises().values()) {
            String call = firstCell(section);
            String row = String.join("|", rows.getOrDefault(call, new String[0]));
            String arguments = String.join("\n", all(Pattern.compile("(?m)^- .*$"), section));
            for (String range : all(RANGE, arguments)) {
                due.holds(range + " stands with " + call, all(RANGE, row).contains(range));
            }
        }
    }

    private static void files(Checks due) {
        Set<String> named = all(Pattern.compile("\\w+"), String.join(" ", rows().keySet()));
        try (var inside = Files.list(TESTS)) {
            for (Path file : inside.toList()) {
                String name = file.getFileName().toString().replace(".java", "");
                due.holds(name + " stands on the page", named.contains(name));
            }
        } catch (IOException unreadable) {
            throw new IllegalStateException(unreadable);
        }
        for (String name : named) {
            due.holds("there is " + name, !name.matches("[A-Z][a-z]+(Tests|Edges)")
                    || Files.exists(TESTS.resolve(name + ".java")));
        }
    }
}
