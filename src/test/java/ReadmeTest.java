import java.io.IOException;
import java.nio.file.Files;
import java.nio.file.Path;
import java.util.ArrayList;
import java.util.List;
import java.util.regex.Matcher;
import java.util.regex.Pattern;

/** README.md tells every call of the document's face, its example answers what it says, and its commands work. */
public final class ReadmeTest extends Checks {
    private static final String ALL_TESTS = ".ci/run";

    public static void main(String[] args) throws IOException, InterruptedException {
        List<String> readme = Files.readAllLines(Path.of("README.md"));
        everyCallIsTold(readme);
        exampleAnswersAsItSays(readme);
        commandsWork(readme);
        finish();
    }

    private static void everyCallIsTold(List<String> readme) throws IOException {
        int calls = 0;
        for (String line : Files.readAllLines(Path.of("../shared/DOC.md"))) {
            Matcher face = Pattern.compile(" {4}public ([^)]*\\))(?: throws )?(.*);").matcher(line);
            if (face.matches()) {
                calls++;
                callIsTold(readme, face.group(1), face.group(2).replace("java.util.", ""));
            }
        }
        due("calls of the face, with the constructor", calls, 16);
    }

    private static void callIsTold(List<String> readme, String head, String exceptions) {
        int from = readme.indexOf("### `" + head + "`");
        due(head + " is told", from >= 0, true);
        String section = from < 0 ? "" : section(readme, from);
        due(head + " asks for something", section.contains("\n- Asks for: "), true);
        boolean answers = !head.startsWith("void ") && !head.startsWith("ChannelledLink(");
        due(head + " answers something", section.contains("\n- Answers: "), answers);
        String told = section.substring(Math.max(section.indexOf("\n- Throws: "), 0));
        due(head + " throws", String.join(", ", found("`(\\w+Exception)`", told)), exceptions);
    }

    /** The lines behind a heading, up to the next one. */
    private static String section(List<String> readme, int heading) {
        StringBuilder text = new StringBuilder("\n");
        for (int place = heading + 1; place < readme.size() && !readme.get(place).startsWith("#"); place++) {
            text.append(readme.get(place)).append('\n');
        }
        return text.toString();
    }

    private static List<String> found(String pattern, String text) {
        List<String> all = new ArrayList<>();
        Matcher matcher = Pattern.compile(pattern).matcher(text);
        while (matcher.find()) {
            all.add(matcher.group(1));
        }
        return all;
    }

    /** A line that prints is followed by the answer that is due, in a comment, up to a colon. */
    private static void exampleAnswersAsItSays(List<String> readme) throws IOException, InterruptedException {
        List<String> examples = blocks(readme, "java");
        due("examples", examples.size(), 1);
        Path room = Files.createTempDirectory("readme");
        Path program = room.resolve("Example.java");
        for (String example : examples) {
            Files.writeString(program, "class Example { public static void main(String[] args) {\n" + example + "}}\n");
            String path = System.getProperty("java.class.path");
            String wanted = String.join("\n", found("println\\(.*\\); *// ([^:\n]*)", example)) + "\n";
            due("lines that print", found("(println)", example).size(), wanted.split("\n").length);
            due("the example", output(List.of("java", "-cp", path, program.toString())), wanted + "exit code 0");
        }
        Files.delete(program);
        Files.delete(room);
    }

    private static void commandsWork(List<String> readme) throws IOException, InterruptedException {
        int ranAll = 0;
        for (String commands : blocks(readme, "sh")) {
            if (commands.strip().equals(ALL_TESTS)) {
                // It is what runs this test, and would run without end.
                ranAll++;
                due(ALL_TESTS + " can be run", Files.isExecutable(Path.of(ALL_TESTS)), true);
            } else {
                String tidy = commands + "rm -r \"$room\"\n";
                String told = output(List.of("bash", "-eu", "-c", tidy));
                due(commands + told, told.endsWith("exit code 0"), true);
            }
        }
        due("the command that runs all tests is told", ranAll, 1);
    }

    private static List<String> blocks(List<String> readme, String language) {
        String text = String.join("\n", readme);
        return found("(?s)```" + language + "\n(.*?\n)```", text);
    }

    private static String output(List<String> command) throws IOException, InterruptedException {
        // What javac and java complain of goes to this test's own reader, beside the answers and not among them.
        Process process = new ProcessBuilder(command).redirectError(ProcessBuilder.Redirect.INHERIT).start();
        process.getOutputStream().close();
        String printed = new String(process.getInputStream().readAllBytes());
        return printed + "exit code " + process.waitFor();
    }
}
