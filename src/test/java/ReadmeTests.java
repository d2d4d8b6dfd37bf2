import java.io.IOException;
import java.nio.file.Files;
import java.nio.file.Path;
import java.util.ArrayList;
import java.util.List;

/** The example in README.md: its calls, in their order, answer what the README says behind them. */
public final class ReadmeTests {
    private static final Checks CHECKS = new Checks("the example in README.md");
    private static final List<String> TOLD = new ArrayList<>();
    private static int next;

    public static void main(String[] args) throws IOException {
        for (String line : Files.readAllLines(Path.of("README.md"))) {
            if (line.startsWith("x.")) {
                TOLD.add(line);
            }
        }
        PairedChannels x = new PairedChannels();
        told("x.begin(4)", x.begin(4));
        told("x.open(9)", x.open(9));
        told("x.set(1, 4)", x.set(1, 4));
        told("x.set(2, 3)", x.set(2, 3));
        CHECKS.due("body bits", x.count(2), 6);
        told("x.send(33)", x.send(33));
        told("x.flip(4)", x.flip(4));
        told("x.read(1)", x.read(1));
        told("x.read(4)", x.read(4));
        told("x.borne()", x.borne());
        told("x.undo()", x.undo());
        told("x.append('-')", x.append('-'));
        told("x.append('7')", x.append('7'));
        told("x.append(',')", x.append(','));
        told("x.append('0')", x.append('0'));
        told("x.firstError()", x.firstError());
        told("x.receiveAll()", x.receiveAll());
        told("x.place(0, 3)", x.place(0, 3));
        CHECKS.due("calls in the example", TOLD.size(), next);
        CHECKS.end();
    }

    /** The next line of the example must have this call, and its answer behind the two strokes. */
    private static void told(String call, int answer) {
        String line = next < TOLD.size() ? TOLD.get(next) : "no line";
        next++;
        String start = line.replaceFirst("; +// (\\d+).*", " answers $1");
        CHECKS.dueText("line " + next, start, call + " answers " + answer);
    }
}
