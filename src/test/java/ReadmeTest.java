import java.io.IOException;
import java.lang.reflect.Method;
import java.lang.reflect.Modifier;
import java.nio.file.Files;
import java.nio.file.Path;
import java.util.ArrayList;
import java.util.Collections;
import java.util.List;
import java.util.regex.Matcher;
import java.util.regex.Pattern;

/** What README.md shows: its Java is compiled and must answer as it says there, its commands must run. */
public final class ReadmeTest {
    private static final Path README = Path.of("README.md");
    private static final Path CI = Path.of(".ci", "run");
    /** A statement, then what it answers, then perhaps ': ' and why. */
    private static final Pattern SHOWN = Pattern.compile("(.+);\\s*// (true|false|-?\\d+)(: .+)?");
    private static final Pattern MADE = Pattern.compile("(ForkedInvites )?x = new ForkedInvites\\(.*\\);(\\s*//.*)?");
    private static final Pattern KEPT = Pattern.compile("int (\\w+) = .+");

    public static void main(String[] args) throws IOException, InterruptedException {
        List<String> lines = Files.readAllLines(README);
        callsAnswerAsShown(blocks(lines, "java"));
        commandsRun(blocks(lines, "sh"));
        everyCallIsNamed(lines);
        everyTestIsNamed(lines);
        Checks.end();
    }

    private static List<List<String>> blocks(List<String> lines, String language) {
        List<List<String>> found = new ArrayList<>();
        List<String> open = null;
        for (String line : lines) {
            if (line.startsWith("```")) {
                open = open == null ? new ArrayList<>() : null;
                if (line.equals("```" + language)) {
                    found.add(open);
                }
            } else if (open != null) {
                open.add(line);
            }
        }
        Checks.due(README + " has blocks of " + language, !found.isEmpty(), true);
        return found;
    }

    private static void callsAnswerAsShown(List<List<String>> blocks) throws IOException, InterruptedException {
        StringBuilder methods = new StringBuilder();
        StringBuilder body = new StringBuilder();
        for (List<String> block : blocks) {
            if (block.get(0).startsWith("static ")) {
                methods.append(String.join("\n", block)).append('\n');
            } else {
                for (String line : block) {
                    body.append(asked(line));
                }
            }
        }
        String source = "public final class ReadmeCalls {\n" + methods
            + "public static void main(String[] args) {\n" + body + "Checks.end();\n}\n}\n";
        Path work = Files.createTempDirectory("readme");
        Path file = work.resolve("ReadmeCalls.java");
        Files.writeString(file, source);
        String classes = Path.of(System.getProperty("java.class.path")).toAbsolutePath().toString();
        String both = classes + System.getProperty("path.separator") + work;
        Checks.due("javac of what README.md shows", exitOf(work, "javac", "-cp", classes, "-d", ".", file.toString()), 0);
        Checks.due("the answers that README.md shows", exitOf(work, "java", "-cp", both, "ReadmeCalls"), 0);
        delete(work);
    }

    /** A shown line as one that asks for its answer. */
    private static String asked(String line) {
        if (line.isBlank() || MADE.matcher(line).matches()) {
            return line + "\n";
        }
        Matcher shown = SHOWN.matcher(line);
        if (!shown.matches()) {
            Checks.due("README.md shows an answer behind '" + line + "'", false, true);
            return "";
        }
        String statement = shown.group(1);
        String answer = shown.group(2);
        String want = answer.endsWith("e") ? answer : answer + "L";
        Matcher kept = KEPT.matcher(statement);
        if (kept.matches()) {
            return statement + ";\n" + due(statement, kept.group(1), want);
        }
        return due(statement, statement, want);
    }

    private static String due(String what, String expression, String want) {
        return "Checks.due(\"" + what + "\", " + expression + ", " + want + ");\n";
    }

    private static void commandsRun(List<List<String>> blocks) throws IOException, InterruptedException {
        boolean all = false;
        // A place of its own, so that nothing is left in the checkout.
        Path work = Files.createTempDirectory("readme");
        Files.createSymbolicLink(work.resolve("src"), Path.of("src").toAbsolutePath());
        for (List<String> block : blocks) {
            String commands = String.join("\n", block);
            if (commands.equals(CI.toString())) {
                // It runs this test, so it is only looked for.
                all = Files.isExecutable(CI);
            } else {
                Checks.due("sh with\n" + commands + "\n", exitOf(work, "sh", "-e", "-c", commands), 0);
            }
        }
        delete(work);
        Checks.due(README + " names " + CI + ", which can be run", all, true);
    }

    private static int exitOf(Path place, String... command) throws IOException, InterruptedException {
        return new ProcessBuilder(command).directory(place.toFile()).inheritIO().start().waitFor();
    }

    private static void delete(Path place) throws IOException {
        List<Path> found = new ArrayList<>(Files.walk(place).toList());
        Collections.reverse(found);
        for (Path path : found) {
            Files.delete(path);
        }
    }

    private static void everyCallIsNamed(List<String> lines) {
        for (Method m : ForkedInvites.class.getDeclaredMethods()) {
            if (Modifier.isPublic(m.getModifiers())) {
                String row = "| `" + m.getName() + "(";
                long rows = lines.stream().filter(line -> line.startsWith(row)).count();
                Checks.due(README + " has a row for " + m.getName(), rows, 1);
            }
        }
    }

    private static void everyTestIsNamed(List<String> lines) throws IOException {
        for (Path file : Files.list(Path.of("src", "test", "java")).toList()) {
            String name = file.getFileName().toString().replace(".java", "");
            if (name.endsWith("Test")) {
                String row = "| `" + name + "` |";
                Checks.due(README + " has a row for " + name, lines.stream().filter(line -> line.startsWith(row)).count(), 1);
            }
        }
    }
}
