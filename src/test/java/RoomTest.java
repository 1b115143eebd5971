import com.sun.management.ThreadMXBean;
import java.lang.management.ManagementFactory;

/** All calls of a run live in one room: no call may make objects, and a new object makes few. */
public final class RoomTest {
    private static final Checks CHECKS = new Checks("RoomTest");
    private static final ThreadMXBean THREADS = (ThreadMXBean) ManagementFactory.getThreadMXBean();
    private static final int ROUNDS = 8;
    private static final int MOST_BYTES_MADE = 10_000;
    /** Far less than one object for each call; the Java machine may need some for itself. */
    private static final int MOST_BYTES_OF_CALLS = 500;

    private static long sum = 0;

    public static void main(String[] args) {
        calls(new TurnDigits());
        TurnDigits x = new TurnDigits();
        long before = THREADS.getCurrentThreadAllocatedBytes();
        calls(x);
        long used = THREADS.getCurrentThreadAllocatedBytes() - before;
        CHECKS.due("room for too many bytes, " + used + ", by calls", used > MOST_BYTES_OF_CALLS ? 1 : 0, 0);
        before = THREADS.getCurrentThreadAllocatedBytes();
        TurnDigits y = new TurnDigits();
        used = THREADS.getCurrentThreadAllocatedBytes() - before;
        CHECKS.due("room for too many bytes, " + used + ", by a new one", used > MOST_BYTES_MADE ? 1 : 0, 0);
        CHECKS.due("what was asked", sum == 0 ? 1 : 0, 0);
        CHECKS.due("a new one", y.count(0), 0);
        CHECKS.end();
    }

    /** Each call of the face, and none that throws: 8 rounds of 58 calls. */
    private static void calls(TurnDigits x) {
        for (int round = 0; round < ROUNDS; round++) {
            changes(x, round);
            texts(x);
            looks(x, round % 6);
        }
    }

    private static void changes(TurnDigits x, int round) {
        sum += x.set(0, 96 - round);
        sum += x.set(4, 1);
        sum += x.number(0, 5, -12345);
        sum += x.show(0, round);
        sum += x.level(round % 6, round);
        sum += x.burn(round % 6, round % 7, round % 2 == 0);
        sum += x.ambient(round);
        sum += x.run(500);
    }

    private static void texts(TurnDigits x) {
        for (int k = 0; k < 6; k++) {
            sum += x.append('8');
        }
        sum += x.append('*');
        sum += x.append('1');
        sum += x.append('5');
        sum += x.firstError();
        sum += x.read();
        sum += x.append('a');
        sum += x.firstError();
        sum += x.clearBuffer();
        sum += x.undo();
    }

    private static void looks(TurnDigits x, int digit) {
        for (int what = 0; what <= 11; what++) {
            sum += x.digit(digit, what);
        }
        for (int what = 0; what <= 10; what++) {
            sum += x.count(what);
        }
        for (int what = 0; what <= 2; what++) {
            sum += x.ifLevel(digit, 15, what);
        }
        sum += x.wear(digit, 0);
        sum += x.slot(5, true);
        sum += x.slot(5, false);
        sum += x.setting(0);
        sum += x.leastLevel(digit);
        sum += x.alikeSigns(digit);
        sum += x.numberShown();
        sum += (long) (1000 * x.evenness());
        sum += x.digest();
    }
}
