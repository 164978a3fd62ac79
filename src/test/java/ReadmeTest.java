import java.io.IOException;
import java.nio.file.Files;
import java.nio.file.Path;
import java.util.ArrayDeque;

/** The examples of README.md: the calls that it answers in a comment, in their order. */
public final class ReadmeTest {
    private static final ArrayDeque<String> LINES = new ArrayDeque<>();

    public static void main(String[] args) throws IOException {
        for (String line : Files.readAllLines(Path.of("README.md"))) {
            if (line.startsWith("chip.") || line.startsWith("for (char c : ")) {
                LINES.add(line);
            }
        }
        DigitChip chip = new DigitChip();
        runsAText(chip);
        takesAKey(chip);
        tellsAFault(chip);
        Check.due("lines of README.md that no call was made for", LINES.size(), 0);
        Check.end();
    }

    private static void runsAText(DigitChip chip) {
        types(chip, "p=1 l4 l2 A=C.w stop");
        tells("chip.assemble();", chip.assemble());
        tells("chip.run(400);", chip.run(400));
        tells("chip.value(0);", chip.value(0));
        tells("chip.display(13);", chip.display(13));
    }

    private static void takesAKey(DigitChip chip) {
        types(chip, ":a key no no no no no no no A=A+1.w >a");
        tells("chip.assemble();", chip.assemble());
        tells("chip.key(1);", chip.key(1));
        tells("chip.run(400);", chip.run(400));
        tells("chip.value(0);", chip.value(0));
        tells("chip.state(3);", chip.state(3));
    }

    private static void tellsAFault(DigitChip chip) {
        types(chip, "no A=A+1");
        String answer = "nothing";
        try {
            chip.assemble();
        } catch (IllegalArgumentException e) {
            answer = "throws IllegalArgumentException";
        }
        tells("chip.assemble();", answer);
        tells("chip.illAt();", chip.illAt());
    }

    private static void types(DigitChip chip, String text) {
        String line = next();
        Check.due("README.md types \"" + text + "\" in: " + line, line.contains("\"" + text + "\""), true);
        Check.type(chip, text);
    }

    private static void tells(String call, Object answer) {
        String line = next();
        String[] told = line.split(" +// ", 2);
        boolean right = told.length == 2 && told[0].equals(call) && (told[1] + ",").startsWith(answer + ",");
        Check.due("README.md tells " + answer + " of " + call + " in: " + line, right, true);
    }

    private static String next() {
        return LINES.isEmpty() ? "(no line more)" : LINES.remove();
    }
}
