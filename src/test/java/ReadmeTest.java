import java.io.IOException;
import java.lang.reflect.Method;
import java.lang.reflect.Modifier;
import java.nio.file.Files;
import java.nio.file.Path;
import java.util.List;

/** README.md: it is there, names every call and the tests, and its example answers what it says. */
final class ReadmeTest {
    private static final Check CHECK = new Check("ReadmeTest");

    public static void main(String[] args) throws IOException {
        Path file = Path.of("README.md");
        CHECK.is("README.md is there", Files.isRegularFile(file));
        if (Files.isRegularFile(file)) {
            List<String> lines = Files.readAllLines(file);
            namesEveryCall(String.join("\n", lines));
            exampleHolds(lines);
        }
        CHECK.end();
    }

    private static void namesEveryCall(String text) {
        for (Method m : FormDesk.class.getDeclaredMethods()) {
            if (Modifier.isPublic(m.getModifiers())) {
                CHECK.is("README.md names " + m.getName(), text.contains("`" + m.getName() + "("));
                CHECK.is("README.md shows " + m.getName(), text.contains("desk." + m.getName() + "("));
            }
        }
        CHECK.is("README.md says how to run the tests", text.contains("```sh\n.ci/run\n```"));
    }

    private static void exampleHolds(List<String> lines) {
        FormDesk desk = new FormDesk();
        shows(lines, "desk.discriminant(-23);", desk.discriminant(-23));
        shows(lines, "desk.form(1, 0);", desk.form(1, 0));
        shows(lines, "desk.compose(1, 1);", desk.compose(1, 1));
        shows(lines, "desk.inverse(1);", desk.inverse(1));
        shows(lines, "desk.power(1, -7);", desk.power(1, -7));
        shows(lines, "desk.order(1);", desk.order(1));
        shows(lines, "desk.genus(2);", desk.genus(2));
        shows(lines, "desk.genera();", desk.genera());
        shows(lines, "desk.reduce(31, 45, 17);", desk.reduce(31, 45, 17));
        shows(lines, "desk.reduced(0);", desk.reduced(0));
        shows(lines, "desk.reduced(4);", desk.reduced(4));
        shows(lines, "desk.reduced(7);", desk.reduced(7));
        shows(lines, "desk.reduced(8);", desk.reduced(8));
        shows(lines, "desk.values(1, 8, false);", desk.values(1, 8, false));
        shows(lines, "desk.values(1, 8, true);", desk.values(1, 8, true));
        shows(lines, "desk.prime(1, 6);", desk.prime(1, 6));
        shows(lines, "desk.put('B' << 8 | '2', 2);", desk.put('B' << 8 | '2', 2));
        shows(lines, "desk.word();", desk.word());
        long calls = lines.stream().filter(line -> line.startsWith("desk.")).count();
        CHECK.same("calls in the example (clear answers nothing)", calls, 19);
    }

    /** The line of that call says, behind the two strokes, the answer first. */
    private static void shows(List<String> lines, String call, Object answer) {
        String due = "// " + answer;
        CHECK.is("a line '" + call + " " + due + "'", lines.stream().anyMatch(
            line -> line.startsWith(call) && line.substring(call.length()).trim().matches(due + "\\b.*")));
    }
}
