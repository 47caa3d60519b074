import java.io.IOException;
import java.nio.file.Files;
import java.nio.file.Path;
import java.util.ArrayList;
import java.util.List;

/** The example of README.md: each line has the answer that the class gives at the head of its comment. */
public final class ReadmeTest {
    private static final String NAME = "console.";
    private static final Check CHECK = new Check();

    public static void main(String[] args) throws IOException {
        List<String> told = calls(Files.readAllLines(Path.of("README.md")));
        List<String> due = answers();
        CHECK.due("calls of the example", due.size(), told.size());
        for (int i = 0; i < Math.min(due.size(), told.size()); i++) {
            CHECK.same("call " + i, due.get(i), told.get(i));
        }
        CHECK.end("ReadmeTest");
    }

    /** What the lines of the example call, and the answers that their comments tell. */
    private static List<String> calls(List<String> lines) {
        List<String> calls = new ArrayList<>();
        for (String line : lines) {
            if (line.startsWith(NAME)) {
                String call = line.substring(NAME.length(), line.indexOf(';'));
                String comment = line.substring(line.indexOf("// ") + 3);
                calls.add(call + " " + comment.substring(0, comment.indexOf(':')));
            }
        }
        return calls;
    }

    private static List<String> answers() {
        OrganConsole console = new OrganConsole();
        List<String> answers = new ArrayList<>();
        answers.add("stop(0, 0, 0, 60) " + console.stop(0, 0, 0, 60));
        answers.add("stop(1, 12, 0, 96) " + console.stop(1, 12, 0, 96));
        answers.add("coupler(0, 1, 0) " + console.coupler(0, 1, 0));
        answers.add("tab(0, true) " + console.tab(0, true));
        answers.add("knob(1, true) " + console.knob(1, true));
        answers.add("key(0, 20, true) " + console.key(0, 20, true));
        answers.add("pipe(1, 32) " + console.pipe(1, 32));
        answers.add("set(0, 3) " + console.set(0, 3));
        answers.add("commit(9) " + console.commit(9));
        answers.add("knob(1, false) " + console.knob(1, false));
        answers.add("boot() " + console.boot());
        answers.add("lamp(0, 3) " + console.lamp(0, 3));
        answers.add("press(0, 3) " + console.press(0, 3));
        answers.add("tick(3) " + console.tick(3));
        answers.add("count(8) " + console.count(8));
        return answers;
    }
}
