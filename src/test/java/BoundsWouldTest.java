import java.math.BigInteger;
import java.util.ArrayList;
import java.util.List;

/**
 * The boundary cases of the promises 19 to 24, each sentence of the document with a test of its own.
 * What is refused stands in RefusalsTest.
 */
public final class BoundsWouldTest {
    private static final int NONE = TurnDigits.NONE;
    private static final Checks CHECKS = new Checks("BoundsWouldTest");

    public static void main(String[] args) {
        ifLevelEdges();
        ifLevelCredits();
        ifLevelDark();
        leastLevel();
        leastLevelNone();
        leastLevelCredits();
        alikeSigns();
        numberEdges();
        numberNothing();
        numberOtherwise();
        numberClear();
        numberBurnt();
        evennessOfNone();
        evennessEdges();
        digestBuffer();
        digestOverflow();
        CHECKS.end();
    }

    private static void ifLevelEdges() {
        CHECKS.sentence("Promise 19: level: 0 to 15; what: 0 to 2");
        TurnDigits x = new TurnDigits();
        CHECKS.due("the light with 0", x.ifLevel(0, 0, 0), 0);
        CHECKS.due("seen with 0", x.ifLevel(0, 0, 1), 5);
        CHECKS.due("flickering with 0", x.ifLevel(0, 0, 2), 0);
        TurnDigits alone = Checks.withLevels(0, 0, 0, 0, 0, 3);
        CHECKS.due("the light of the only one with 15", alone.ifLevel(5, 15, 0), 1000);
        CHECKS.due("the light of the only one with 0", alone.ifLevel(5, 0, 0), 0);
        CHECKS.due("seen with 0", alone.ifLevel(5, 0, 1), 0);
        CHECKS.due("flickering with 0", alone.ifLevel(5, 0, 2), 0);
        CHECKS.due("seen with 15 of another", alone.ifLevel(0, 15, 1), 2);
        TurnDigits unsteady = new TurnDigits();
        unsteady.set(2, 1);
        CHECKS.due("all flicker", unsteady.ifLevel(3, 4, 2), 6);
        CHECKS.due("none is seen", unsteady.ifLevel(3, 4, 1), 0);
        CHECKS.due("all but one flicker", unsteady.ifLevel(3, 0, 2), 5);
    }

    private static void ifLevelCredits() {
        CHECKS.sentence("Promise 19: returns the number, with all credits as 0");
        TurnDigits x = new TurnDigits();
        x.set(0, 7);
        x.run(1);
        CHECKS.due("its light, with its credit", x.digit(0, 5), 142);
        CHECKS.due("its light with the same level", x.ifLevel(0, 4, 0), 285);
        CHECKS.due("another one's light, with its credit", x.digit(1, 5), 285);
        CHECKS.due("another one's light with the same level", x.ifLevel(1, 4, 0), 142);
        CHECKS.due("the credit stays", x.digit(0, 4), -20);
        CHECKS.due("the level stays", x.digit(0, 1), 4);
        CHECKS.due("nothing is saved", x.count(10), 2);
    }

    private static void ifLevelDark() {
        CHECKS.sentence("Promise 19: what another level would do; the slot 0 is dark then too");
        TurnDigits x = Checks.withLevels();
        x.set(1, 1);
        x.set(0, 6);
        CHECKS.due("the light from the slot 0", x.ifLevel(2, 1, 0), 833);
        x.level(2, 1);
        x.run(1);
        CHECKS.due("the light from the slot 1", x.ifLevel(2, 1, 0), 1000);
        CHECKS.due("the light of one that changes with it", x.ifLevel(3, 1, 0), 0);
        x.level(2, 0);
        CHECKS.due("the light behind another one's slot", x.ifLevel(3, 1, 0), 833);
        x.run(1);
        CHECKS.due("the light behind nobody's slot", x.ifLevel(2, 1, 0), 833);
    }

    private static void leastLevel() {
        CHECKS.sentence("Promise 20: the least level with which the digit would be seen");
        TurnDigits x = Checks.withLevels(0, 15);
        x.ambient(0);
        CHECKS.due("1 is enough for the slot 7 of a frame of 24, gap 15, at 12", x.ifLevel(0, 1, 2), 1);
        x.set(2, 15);
        CHECKS.due("at 15", x.leastLevel(0), 1);
        x.set(0, 7);
        CHECKS.due("without a slot in a frame of 7", x.ifLevel(0, 1, 0), 0);
        CHECKS.due("the next level has one", x.leastLevel(0), 2);
        TurnDigits alone = Checks.withLevels();
        CHECKS.due("the only one", alone.leastLevel(5), 1);
        CHECKS.sentence("Promise 20: 15 may be the least");
        TurnDigits most = Checks.withLevels(0, 15);
        most.set(2, 1);
        most.set(0, 96);
        CHECKS.due("14 would flicker", most.ifLevel(0, 14, 2), 1);
        CHECKS.due("15 would not", most.leastLevel(0), 15);
    }

    private static void leastLevelNone() {
        CHECKS.sentence("Promise 20: NONE if there is none");
        TurnDigits x = Checks.withLevels(15, 15, 15, 15, 15, 15);
        x.ambient(20);
        x.set(3, 20);
        for (int d = 0; d < 6; d++) {
            CHECKS.due("a light of 166 at 400", x.leastLevel(d), NONE);
        }
        TurnDigits dark = new TurnDigits();
        dark.set(1, 1);
        dark.ambient(0);
        CHECKS.due("8 beside five times 4 is lit in the slots 7, 14 and 21", dark.ifLevel(0, 8, 0), 125);
        dark.set(0, 6);
        CHECKS.due("none has two slots in a row of the first six", dark.leastLevel(0), NONE);
        CHECKS.sentence("Promise 20: the least level of several that flicker, or have no light");
        TurnDigits row = Checks.withLevels(0, 4);
        row.set(1, 1);
        row.set(2, 9);
        CHECKS.due("4 beside 4 has no two slots in a row", row.ifLevel(0, 4, 0), 0);
        CHECKS.due("5 beside 4 is lit in the slots 9 and 18", row.leastLevel(0), 5);
        row.set(2, 8);
        CHECKS.due("6 beside 4 is lit in the slots 5, 10, 15 and 20", row.leastLevel(0), 6);
        TurnDigits even = Checks.withLevels(0, 1);
        even.set(2, 1);
        CHECKS.due("1 beside 1", even.leastLevel(0), 1);
        even.level(2, 1);
        CHECKS.due("beside 1 and 1, as 2 has the slots 0, 3, 4, 7", even.leastLevel(0), 3);
    }

    private static void leastLevelCredits() {
        CHECKS.sentence("Promise 20: as in ifLevel(), with all credits as 0; nothing is changed");
        TurnDigits x = new TurnDigits();
        x.set(0, 7);
        x.run(1);
        x.ambient(20);
        long before = x.digest();
        CHECKS.due("a light of 285 at 200 with two slots of 7", x.leastLevel(0), 4);
        CHECKS.due("though it is not seen now", x.digit(0, 8), 0);
        CHECKS.due("with 3 it would have one slot", x.ifLevel(0, 3, 0), 142);
        CHECKS.due("the digest behind it", x.digest(), before);
    }

    private static void alikeSigns() {
        CHECKS.sentence("Promise 21: how many pairs of unlike signs, 0 to 11, would show the same segments on it");
        for (int mask = 0; mask < 128; mask++) {
            int pairs = 0;
            for (int a = 0; a < 12; a++) {
                for (int b = 0; b < 12; b++) {
                    pairs += a != b && ((Checks.MASKS[a] ^ Checks.MASKS[b]) & ~mask) == 0 ? 1 : 0;
                }
            }
            CHECKS.due("without " + mask, Checks.burnt(mask % 6, mask).alikeSigns(mask % 6), pairs / 2);
        }
        CHECKS.due("none burnt", Checks.burnt(0, 0).alikeSigns(0), 0);
        CHECKS.due("all burnt: 12 times 11 by 2", Checks.burnt(5, 127).alikeSigns(5), 66);
        CHECKS.due("another digit's are burnt", Checks.burnt(4, 127).alikeSigns(5), 0);
    }

    private static TurnDigits shown(int... signs) {
        TurnDigits x = new TurnDigits();
        for (int d = 0; d < 6; d++) {
            x.show(d, signs[d]);
        }
        return x;
    }

    private static void numberEdges() {
        CHECKS.sentence("Promise 22: perhaps a minus, then one or more of 0 to 9 up to the digit 5");
        CHECKS.due("the greatest", shown(9, 9, 9, 9, 9, 9).numberShown(), 999999);
        CHECKS.due("the least", shown(10, 9, 9, 9, 9, 9).numberShown(), -99999);
        CHECKS.due("one figure", shown(11, 11, 11, 11, 11, 4).numberShown(), 4);
        CHECKS.due("0", shown(11, 11, 11, 11, 11, 0).numberShown(), 0);
        CHECKS.due("zeros alone", shown(0, 0, 0, 0, 0, 0).numberShown(), 0);
        CHECKS.due("zeros ahead", shown(0, 0, 0, 0, 1, 0).numberShown(), 10);
        CHECKS.due("a minus and zeros", shown(10, 0, 0, 0, 0, 7).numberShown(), -7);
        CHECKS.due("a minus and 0", shown(11, 11, 11, 11, 10, 0).numberShown(), 0);
        CHECKS.due("-2", shown(11, 11, 11, 11, 10, 2).numberShown(), -2);
        CHECKS.sentence("Promise 22: the number -1 is as NONE");
        CHECKS.due("-1", shown(11, 11, 11, 11, 10, 1).numberShown(), -1);
        CHECKS.sentence("Promise 22: what number() shows is read");
        int[] numbers = {0, 9, 10, 99999, 100000, 999999, -1, -9, -10, -99999, 307, -4050};
        for (int number : numbers) {
            TurnDigits x = new TurnDigits();
            x.number(0, 5, number);
            CHECKS.due("the number " + number, x.numberShown(), number);
        }
    }

    private static void numberNothing() {
        CHECKS.sentence("Promise 22: nothing ahead of the first sign that is not nothing");
        for (int first = 0; first < 6; first++) {
            int[] signs = {11, 11, 11, 11, 11, 11};
            int number = 0;
            for (int d = first; d < 6; d++) {
                signs[d] = d + 1;
                number = number * 10 + d + 1;
            }
            CHECKS.due("the number " + number, shown(signs).numberShown(), number);
            signs[first] = 10;
            int rest = number - (first + 1) * (int) Math.pow(10, 5 - first);
            CHECKS.due("a minus at " + first, shown(signs).numberShown(), first == 5 ? NONE : -rest);
        }
        CHECKS.sentence("Promise 22: NONE if it is otherwise");
        CHECKS.due("nothing at all", shown(11, 11, 11, 11, 11, 11).numberShown(), NONE);
    }

    private static void numberOtherwise() {
        CHECKS.sentence("Promise 22: NONE if it is otherwise");
        for (int at = 1; at < 6; at++) {
            int[] signs = {1, 2, 3, 4, 5, 6};
            signs[at] = 11;
            CHECKS.due("nothing at " + at + ", behind a figure", shown(signs).numberShown(), NONE);
            signs[at] = 10;
            CHECKS.due("a minus at " + at + ", behind a figure", shown(signs).numberShown(), NONE);
            signs[0] = 10;
            CHECKS.due("a minus at " + at + ", behind a minus", shown(signs).numberShown(), NONE);
            signs[at] = 11;
            CHECKS.due("nothing at " + at + ", behind a minus", shown(signs).numberShown(), NONE);
        }
        CHECKS.due("a minus at the end", shown(11, 11, 11, 11, 11, 10).numberShown(), NONE);
        CHECKS.due("minuses alone", shown(10, 10, 10, 10, 10, 10).numberShown(), NONE);
        CHECKS.due("a figure and nothing", shown(7, 11, 11, 11, 11, 11).numberShown(), NONE);
        CHECKS.due("a minus and nothing", shown(10, 11, 11, 11, 11, 11).numberShown(), NONE);
    }

    private static void numberClear() {
        for (int d = 0; d < 6; d++) {
            CHECKS.sentence("Promise 22: NONE if a digit is not clear");
            TurnDigits x = shown(10, 2, 3, 4, 5, 6);
            x.level(d, 0);
            CHECKS.due("not lit: " + d, x.numberShown(), NONE);
            CHECKS.sentence("Promise 22: one that shows nothing and has the sign 11 need not be");
            TurnDigits y = shown(11, 11, 11, 11, 11, 7);
            y.level(d, 0);
            CHECKS.due("nothing, not lit: " + d, y.numberShown(), d == 5 ? NONE : 7);
        }
        CHECKS.sentence("Promise 22: NONE if a digit is not clear, as all flicker");
        TurnDigits x = shown(1, 2, 3, 4, 5, 6);
        x.set(2, 5);
        CHECKS.due("gaps of 5 at 5", x.numberShown(), 123456);
        x.set(2, 4);
        CHECKS.due("gaps of 5 at 4", x.numberShown(), NONE);
        x.set(2, 96);
        x.set(1, 1);
        CHECKS.due("all slots are dark", x.numberShown(), NONE);
    }

    private static void burnAll(TurnDigits x, int digit) {
        for (int k = 0; k < 7; k++) {
            x.burn(digit, k, true);
        }
    }

    private static void numberBurnt() {
        CHECKS.sentence("Promise 22: one that shows nothing and has the sign 11 need not be clear");
        TurnDigits x = shown(11, 11, 11, 11, 10, 7);
        for (int d = 0; d < 4; d++) {
            burnAll(x, d);
            CHECKS.due("a burnt nothing at " + d, x.numberShown(), -7);
        }
        CHECKS.sentence("Promise 22: one that shows nothing and has another sign has to be clear");
        x.show(0, 8);
        CHECKS.due("a burnt 8 at 0", x.numberShown(), NONE);
        x.show(0, 10);
        CHECKS.due("a burnt minus at 0", x.numberShown(), NONE);
        x.show(0, 11);
        CHECKS.due("nothing at 0 again", x.numberShown(), -7);
        x.show(3, 5);
        CHECKS.due("a burnt 5 at 3", x.numberShown(), NONE);
        x.show(3, 11);
        burnAll(x, 4);
        CHECKS.due("a burnt minus at 4", x.numberShown(), NONE);
        x.show(4, 11);
        CHECKS.due("nothing at 4", x.numberShown(), 7);
        burnAll(x, 5);
        CHECKS.due("a burnt 7 at 5", x.numberShown(), NONE);
    }

    private static void evennessOfNone() {
        CHECKS.sentence("Promise 23: 1.0 if there are none such");
        CHECKS.dueShare("no levels", Checks.withLevels().evenness(), 1.0);
        CHECKS.sentence("Promise 23: 1.0 if the greatest one is 0");
        TurnDigits x = new TurnDigits();
        x.set(1, 1);
        CHECKS.dueShare("all slots are dark", x.evenness(), 1.0);
        TurnDigits y = Checks.withLevels(0, 0, 0, 7, 0, 7);
        y.set(1, 1);
        CHECKS.dueShare("all slots of two are dark", y.evenness(), 1.0);
    }

    private static void evennessEdges() {
        CHECKS.sentence("Promise 23: of the digits with a level above 0");
        for (int d = 0; d < 6; d++) {
            TurnDigits x = Checks.withLevels();
            x.level(d, 15);
            CHECKS.dueShare("the only one is " + d, x.evenness(), 1.0);
            x.level((d + 1) % 6, 5);
            CHECKS.dueShare("15 and 5", x.evenness(), 250.0 / 750.0);
        }
        CHECKS.sentence("Promise 23: the least light, as a double, divided by the greatest one");
        TurnDigits none = Checks.withLevels(1, 15);
        none.set(0, 7);
        CHECKS.dueShare("the least light is 0", none.evenness(), 0.0);
        none.set(0, 8);
        CHECKS.dueShare("one slot of 8", none.evenness(), 125.0 / 875.0);
        TurnDigits seven = new TurnDigits();
        seven.set(0, 7);
        CHECKS.dueShare("two slots of 7 and one", seven.evenness(), 142.0 / 285.0);
        TurnDigits steep = Checks.withLevels(15, 1, 15, 15, 15, 15);
        steep.set(0, 76);
        CHECKS.dueShare("one slot of 76 and 15", steep.evenness(), 13.0 / 197.0);
        steep.set(0, 95);
        CHECKS.dueShare("all in a frame of 95", steep.evenness(), (double) least(steep) / most(steep));
    }

    private static int least(TurnDigits x) {
        int least = 1000;
        for (int d = 0; d < 6; d++) {
            least = Math.min(least, x.digit(d, 5));
        }
        return least;
    }

    private static int most(TurnDigits x) {
        int most = 0;
        for (int d = 0; d < 6; d++) {
            most = Math.max(most, x.digit(d, 5));
        }
        return most;
    }

    /** The hash goes on from that of the empty buffer, whose last value was its length, 0. */
    private static long withBuffer(long empty, String text) {
        long hash = empty + text.length();
        for (int k = 0; k < text.length(); k++) {
            hash = 31 * hash + text.charAt(k);
        }
        return hash;
    }

    private static void digestBuffer() {
        CHECKS.sentence("Promise 24: the length of the buffer and each of its character codes");
        long empty = new TurnDigits().digest();
        String[] texts = {"", "!", "~", "77", "7*15", "!~".repeat(29), "0".repeat(59), "~!".repeat(30)};
        for (String text : texts) {
            TurnDigits x = new TurnDigits();
            Checks.type(x, text);
            CHECKS.due("digest() with " + text, x.digest(), withBuffer(empty, text));
            x.clearBuffer();
            CHECKS.due("digest() with a cleared buffer", x.digest(), empty);
        }
        TurnDigits shorter = new TurnDigits();
        Checks.type(shorter, "7777");
        shorter.clearBuffer();
        Checks.type(shorter, "12");
        CHECKS.due("digest() with a shorter text", shorter.digest(), withBuffer(empty, "12"));
    }

    /** Without an overflow in between: what is above 64 bits is cut off at the end alone. */
    private static void digestOverflow() {
        CHECKS.sentence("Promise 24: 31 * hash + v, in long arithmetic with overflow; the hash starts at 2729");
        dueDigest(new TurnDigits(), "");
        TurnDigits x = Checks.withLevels(1, 15, 0, 7);
        x.number(0, 5, -40817);
        x.set(0, 7);
        x.run(500);
        Checks.type(x, "7*1!~");
        dueDigest(x, "7*1!~");
        dueDigest(Checks.withLevels(), "");
        CHECKS.sentence("Promise 24: the bits of evenness (as Double.doubleToLongBits)");
        int[][] levels = {{15}, {1, 15}, {3, 2}, {5, 4, 3}, {15, 7, 1}, {2, 3, 5, 7, 11, 13}};
        for (int[] some : levels) {
            TurnDigits y = Checks.withLevels(some);
            y.set(0, 96);
            dueDigest(y, "");
        }
    }

    private static void dueDigest(TurnDigits x, String buffer) {
        List<Long> values = new ArrayList<>();
        for (int what = 0; what <= 10; what++) {
            values.add((long) x.count(what));
        }
        for (int k = 0; k <= 4; k++) {
            values.add((long) x.setting(k));
        }
        for (int d = 0; d <= 5; d++) {
            addDigit(values, x, d);
        }
        for (int k = 0; k <= 5; k++) {
            values.add((long) x.slot(k, true));
            values.add((long) x.slot(k, false));
        }
        values.add((long) x.numberShown());
        values.add(Double.doubleToLongBits(x.evenness()));
        values.add((long) buffer.length());
        for (int k = 0; k < buffer.length(); k++) {
            values.add((long) buffer.charAt(k));
        }
        BigInteger hash = BigInteger.valueOf(2729);
        for (long value : values) {
            hash = hash.multiply(BigInteger.valueOf(31)).add(BigInteger.valueOf(value));
        }
        CHECKS.due("digest()", x.digest(), hash.longValue());
        CHECKS.due("digest() has overflowed", hash.bitLength() > 63 ? 1 : 0, 1);
    }

    private static void addDigit(List<Long> values, TurnDigits x, int digit) {
        for (int what = 0; what <= 11; what++) {
            values.add((long) x.digit(digit, what));
        }
        for (int k = 0; k <= 6; k++) {
            values.add((long) x.wear(digit, k));
        }
        for (int what = 0; what <= 2; what++) {
            values.add((long) x.ifLevel(digit, 9, what));
        }
        values.add((long) x.leastLevel(digit));
        values.add((long) x.alikeSigns(digit));
    }
}
