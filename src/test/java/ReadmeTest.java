import java.io.IOException;
import java.nio.file.Files;
import java.nio.file.Path;
import java.util.ArrayDeque;
import java.util.Deque;
import java.util.concurrent.Callable;
import java.util.regex.Matcher;
import java.util.regex.Pattern;

/** The calls that README.md shows, one after the other on one object, answer what stands behind them there. */
public final class ReadmeTest {
    private static final Pattern CALL = Pattern.compile("    thicket\\.(\\S.*); +// (\\S+)");
    private static final String TEXT = "    for (char each : \"+,a-c,!c\".toCharArray()) thicket.append(each);";

    private final Deque<String> shown = new ArrayDeque<>();
    private final ThornCores thicket = new ThornCores();

    public static void main(String[] args) throws IOException {
        ReadmeTest test = new ReadmeTest();
        for (String line : Files.readAllLines(Path.of("README.md"))) {
            Matcher call = CALL.matcher(line);
            if (call.matches()) {
                test.shown.add(call.group(1) + " " + call.group(2));
            } else if (line.equals(TEXT)) {
                test.shown.add("the text");
            }
        }
        test.use();
        test.refusals();
        Check.same("calls that are not tried", "[]", test.shown.toString());
        Check.finish();
    }

    private void call(String written, Callable<?> call) {
        Check.same("README.md", String.valueOf(shown.poll()), written + " " + Check.answer(call));
    }

    private void use() {
        call("plant()", thicket::plant);
        call("plant()", thicket::plant);
        call("bind(0, 1)", () -> thicket.bind(0, 1));
        call("neighbors(1)", () -> thicket.neighbors(1));
        call("core(1)", () -> thicket.core(1));
        call("coreOf(0)", () -> thicket.coreOf(0));
        Check.same("README.md", String.valueOf(shown.poll()), "the text");
        for (char each : "+,a-c,!c".toCharArray()) {
            thicket.append(each);
        }
        call("isValid()", thicket::isValid);
        call("change()", thicket::change);
        call("plantCount()", thicket::plantCount);
        call("isPropped(2)", () -> thicket.isPropped(2));
        call("core(2)", () -> thicket.core(2));
        call("bestProp(2)", () -> thicket.bestProp(2));
        call("averageNeighbors()", thicket::averageNeighbors);
        call("takeSnapshot()", thicket::takeSnapshot);
        call("undo()", thicket::undo);
        call("plantCount()", thicket::plantCount);
        call("restoreSnapshot()", thicket::restoreSnapshot);
        call("historySize()", thicket::historySize);
    }

    private void refusals() {
        call("neighbors(3)", () -> thicket.neighbors(3));
        call("bind(0, 0)", () -> thicket.bind(0, 0));
        call("core(16)", () -> thicket.core(16));
        call("bind(0, 1)", () -> thicket.bind(0, 1));
        call("cut(1, 2)", () -> thicket.cut(1, 2));
        call("support(1, 2)", () -> thicket.support(1, 2));
    }
}
