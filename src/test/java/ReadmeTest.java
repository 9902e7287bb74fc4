import java.io.IOException;
import java.nio.file.Files;
import java.nio.file.Path;
import java.util.List;

/** The calls of README.md's example answer what stands behind them there. Run where README.md is, as .ci/run does. */
final class ReadmeTest {
    private static final int CALLS = 16;

    private final Checks checks = new Checks();
    private final List<String> lines;

    private ReadmeTest() throws IOException {
        lines = Files.readAllLines(Path.of("README.md"));
    }

    public static void main(String[] args) throws IOException {
        ReadmeTest test = new ReadmeTest();
        test.checks.title("README.md");
        test.checkExample();
        test.checks.end();
    }

    private void checkExample() {
        DustRobot robot = new DustRobot();
        shown("addDrive(4)", robot.addDrive(4));
        shown("addTape(2, Float.floatToRawIntBits(0.5f))", robot.addTape(2, Float.floatToRawIntBits(0.5f)));
        shown("addCleaner(9, 3)", robot.addCleaner(9, 3));
        shown("read(0)", robot.read(0));
        shown("fate(0, 1)", robot.fate(0, 1));
        shown("tick(8)", robot.tick(8));
        shown("dust(0)", robot.dust(0));
        shown("event(0, 0)", robot.event(0, 0));
        shown("undo()", robot.undo());
        shown("keep()", robot.keep());
        shown("type('c')", robot.type('c'));
        shown("type('0')", robot.type('0'));
        shown("readJobs()", robot.readJobs());
        shown("next()", robot.next());
        shown("restore()", robot.restore());
        shown("job(1, 0)", robot.job(1, 0));
        checks.due("calls of the example", lines.stream().filter(line -> line.startsWith("robot.")).count(), CALLS);
    }

    private void shown(String call, int answer) {
        shown(call, String.valueOf(answer));
    }

    private void shown(String call, float answer) {
        shown(call, String.valueOf(answer));
    }

    private void shown(String call, String answer) {
        checks.due("robot." + call, answer, answerInReadme("robot." + call + ";"));
    }

    /** The number behind the call, up to the comma or colon that ends it. */
    private String answerInReadme(String call) {
        for (String line : lines) {
            int at = line.indexOf("// ");
            if (line.startsWith(call) && at >= 0) {
                return line.substring(at + 3).split("[,:]", 2)[0];
            }
        }
        return "no such call";
    }
}
