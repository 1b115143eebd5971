import java.io.IOException;
import java.nio.file.Files;
import java.nio.file.Path;
import java.util.regex.Matcher;
import java.util.regex.Pattern;

/** The answers that README.md tells behind the calls of its example, in the order of its lines. */
public final class ReadmeTest {
    private static final Checks CHECKS = new Checks("ReadmeTest");
    private static final Pattern LINE = Pattern.compile("(?m)^(digits\\..*;) +// (-?\\d+)");

    private final Matcher lines;

    private ReadmeTest(String text) {
        lines = LINE.matcher(text);
    }

    public static void main(String[] args) throws IOException {
        new ReadmeTest(Files.readString(Path.of("README.md"))).example();
        CHECKS.end();
    }

    private void example() {
        TurnDigits digits = new TurnDigits();
        told("digits.number(0, 5, -70);", digits.number(0, 5, -70));
        told("digits.run(12);", digits.run(12));
        told("digits.numberShown();", digits.numberShown());
        told("digits.digit(3, 5);", digits.digit(3, 5));
        told("digits.ifLevel(3, 9, 0);", digits.ifLevel(3, 9, 0));
        told("digits.append('8');", digits.append('8'));
        told("digits.append('*');", digits.append('*'));
        told("digits.append('x');", digits.append('x'));
        told("digits.firstError();", digits.firstError());
        told("digits.clearBuffer();", digits.clearBuffer());
        told("digits.undo();", digits.undo());
        told("digits.count(0);", digits.count(0));
        CHECKS.due("lines of the example that are left", lines.find() ? 1 : 0, 0);
    }

    private void told(String call, int got) {
        boolean isTold = lines.find();
        CHECKS.dueText("the next line of the example", isTold ? lines.group(1) : "nothing", call);
        CHECKS.dueText(call, Integer.toString(got), isTold ? lines.group(2) : "nothing");
    }
}
