/** Promises 9 to 13: the buffer, digits as a text, and undo. */
public final class TextsTest {
    private static final Checks CHECKS = new Checks("TextsTest");

    public static void main(String[] args) {
        append();
        clearBuffer();
        firstError();
        readSigns();
        readLevels();
        readRefused();
        undo();
        undoRestoresAll();
        CHECKS.end();
    }

    private static void append() {
        TurnDigits x = new TurnDigits();
        CHECKS.due("append(33)", x.append(33), 1);
        CHECKS.due("append(126)", x.append(126), 2);
        CHECKS.refusedArgument(x, "append(32)", () -> x.append(32));
        CHECKS.refusedArgument(x, "append(127)", () -> x.append(127));
        CHECKS.refusedArgument(x, "append(-1)", () -> x.append(-1));
        for (int k = 3; k <= 60; k++) {
            CHECKS.due("append to " + k, x.append('0'), k);
        }
        CHECKS.refusedState(x, "append to the full", () -> x.append('0'));
        CHECKS.refusedArgument(x, "append(32) to the full", () -> x.append(32));
        CHECKS.due("append saves nothing", x.count(10), 0);
        CHECKS.due("the full buffer", x.clearBuffer(), 60);
        CHECKS.due("append behind clearing", x.append('7'), 1);
    }

    private static void clearBuffer() {
        TurnDigits x = new TurnDigits();
        CHECKS.due("clearBuffer() of none", x.clearBuffer(), 0);
        Checks.type(x, "12*");
        CHECKS.due("clearBuffer()", x.clearBuffer(), 3);
        CHECKS.due("clearBuffer() again", x.clearBuffer(), 0);
        CHECKS.due("clearBuffer saves nothing", x.count(10), 0);
        CHECKS.due("firstError() behind it", x.firstError(), 0);
        Checks.type(x, "5");
        CHECKS.due("firstError() without what was cleared", x.firstError(), 1);
        CHECKS.due("read() behind it", x.read(), 1);
        CHECKS.due("its digit", x.digit(0, 0), 5);
        CHECKS.due("no other digit", x.digit(1, 0), 11);
    }

    private static void errorAt(String text, int index) {
        TurnDigits x = new TurnDigits();
        Checks.type(x, text);
        long before = x.digest();
        CHECKS.due("firstError() of " + text, x.firstError(), index);
        CHECKS.due("firstError() again", x.firstError(), index);
        CHECKS.due("the digest behind it", x.digest(), before);
    }

    private static void firstError() {
        errorAt("", 0);
        errorAt("0", 1);
        errorAt("9", 1);
        errorAt("-", 1);
        errorAt("_", 1);
        errorAt("a", 0);
        errorAt("*", 0);
        errorAt("/", 0);
        errorAt(":", 0);
        errorAt(".5", 0);
        errorAt("1+", 1);
        errorAt("1*", 2);
        errorAt("1**", 2);
        errorAt("1*-", 2);
        errorAt("1*_", 2);
        errorAt("1*:", 2);
        errorAt("1*/", 2);
        errorAt("1*5*", 3);
        errorAt("1*15*", 4);
        errorAt("1*1*", 3);
        errorAt("1*15", 4);
        errorAt("1*10", 4);
        errorAt("1*16", 4);
        errorAt("1*00", 4);
        errorAt("1*155", 5);
        errorAt("123456", 6);
        errorAt("1234567", 6);
        errorAt("-_-_-_-", 6);
        errorAt("123456*", 7);
        errorAt("123456*1", 8);
        errorAt("123456*15", 9);
        errorAt("123456*10", 9);
        errorAt("123456*16", 8);
        errorAt("123456*1-", 8);
        errorAt("123456*25", 8);
        errorAt("123456*05", 8);
        errorAt("123456*155", 9);
        errorAt("1*152*153*154*155*156*15", 24);
        errorAt("1*152*153*154*155*156*15*", 24);
        errorAt("1x*", 1);
        errorAt("12x3y", 2);
    }

    private static void reads(String text, int parts, int[] signs, int[] levels) {
        TurnDigits x = new TurnDigits();
        for (int d = 0; d < 6; d++) {
            x.show(d, 8);
        }
        Checks.type(x, text);
        CHECKS.due("firstError() ahead of read()", x.firstError(), text.length());
        CHECKS.due("read() of " + text, x.read(), parts);
        for (int d = 0; d < 6; d++) {
            CHECKS.due(text + ", sign " + d, x.digit(d, 0), d < parts ? signs[d] : 8);
            CHECKS.due(text + ", level " + d, x.digit(d, 1), d < parts && levels[d] >= 0 ? levels[d] : 4);
        }
        CHECKS.due("the buffer behind it", x.clearBuffer(), 0);
    }

    private static void readSigns() {
        reads("0", 1, new int[] {0}, new int[] {-1});
        reads("9", 1, new int[] {9}, new int[] {-1});
        reads("-70", 3, new int[] {10, 7, 0}, new int[] {-1, -1, -1});
        reads("__-123", 6, new int[] {11, 11, 10, 1, 2, 3}, new int[] {-1, -1, -1, -1, -1, -1});
        TurnDigits x = new TurnDigits();
        x.run(1);
        Checks.type(x, "456");
        x.read();
        CHECKS.due("the credit behind signs alone", x.digit(0, 4), -20);
        CHECKS.due("saved by read, as one call", x.count(10), 2);
        x.undo();
        CHECKS.due("undone at once: 0", x.digit(0, 0), 11);
        CHECKS.due("undone at once: 2", x.digit(2, 0), 11);
        CHECKS.due("the buffer stays clear", x.clearBuffer(), 0);
    }

    private static void readLevels() {
        reads("1*0", 1, new int[] {1}, new int[] {0});
        reads("1*9", 1, new int[] {1}, new int[] {9});
        reads("1*1", 1, new int[] {1}, new int[] {1});
        reads("1*10", 1, new int[] {1}, new int[] {10});
        reads("1*15", 1, new int[] {1}, new int[] {15});
        reads("1*16", 2, new int[] {1, 6}, new int[] {1, -1});
        reads("1*20", 2, new int[] {1, 0}, new int[] {2, -1});
        reads("1*00", 2, new int[] {1, 0}, new int[] {0, -1});
        reads("1*1-", 2, new int[] {1, 10}, new int[] {1, -1});
        reads("1*123*4", 2, new int[] {1, 3}, new int[] {12, 4});
        reads("8*3-*0_1*15", 4, new int[] {8, 10, 11, 1}, new int[] {3, 0, -1, 15});
        reads("1*152*143*134*125*116*10", 6, new int[] {1, 2, 3, 4, 5, 6}, new int[] {15, 14, 13, 12, 11, 10});
        TurnDigits x = new TurnDigits();
        x.run(1);
        Checks.type(x, "77*47");
        x.read();
        for (int d = 0; d < 6; d++) {
            CHECKS.due("the credit behind a level that is told", x.digit(d, 4), 0);
        }
        x.undo();
        CHECKS.due("the credit behind undo", x.digit(0, 4), -20);
    }

    private static void readRefused() {
        String[] texts = {"", "*", "1*", "123456*", "1234567", "a", "12a", "1*16*", "1*-", "1*15*5", "1a2"};
        for (String text : texts) {
            TurnDigits x = new TurnDigits();
            x.show(0, 8);
            x.run(1);
            Checks.type(x, text);
            CHECKS.refusedArgument(x, "read() of " + text, x::read);
            CHECKS.due("the buffer behind it", x.clearBuffer(), text.length());
        }
    }

    private static void undo() {
        TurnDigits x = new TurnDigits();
        CHECKS.refusedState(x, "undo() of none", x::undo);
        for (int sign = 0; sign < 9; sign++) {
            x.show(0, sign);
            CHECKS.due("saved", x.count(10), Math.min(sign + 1, 6));
        }
        x.append('3');
        for (int left = 5; left >= 0; left--) {
            CHECKS.due("undo()", x.undo(), left);
            CHECKS.due("the sign behind it", x.digit(0, 0), left + 2);
            CHECKS.due("saved behind it", x.count(10), left);
        }
        CHECKS.refusedState(x, "undo() of no more", x::undo);
        CHECKS.due("the buffer stays", x.clearBuffer(), 1);
        x.show(0, 9);
        x.show(0, 0);
        CHECKS.due("undo() behind more calls", x.undo(), 1);
        CHECKS.due("the sign behind it", x.digit(0, 0), 9);
    }

    private static void undoRestoresAll() {
        TurnDigits x = new TurnDigits();
        x.number(0, 5, 888888);
        x.set(4, 1);
        x.set(1, 1);
        x.level(0, 9);
        x.run(7);
        Runnable[] changes = {
            () -> x.show(3, 2), () -> x.level(2, 7), () -> x.burn(1, 1, true), () -> x.burn(0, 0, false),
            () -> x.ambient(5), () -> x.set(0, 30), () -> x.set(3, 3), () -> x.number(1, 4, -12),
            () -> x.run(500), () -> { Checks.type(x, "1*123*2"); x.read(); },
        };
        for (int k = 0; k < changes.length; k++) {
            while (x.count(10) > 0 && k == 0) {
                x.undo();
            }
            long before = x.digest();
            changes[k].run();
            CHECKS.due("changed by " + k, x.digest() != before ? 1 : 0, 1);
            CHECKS.due("saved by " + k, x.count(10), 1);
            CHECKS.due("undo() of " + k, x.undo(), 0);
            CHECKS.due("the digest behind undo() of " + k, x.digest(), before);
        }
        worn(x);
    }

    /** A burnt and worn state comes back whole. */
    private static void worn(TurnDigits x) {
        x.number(0, 5, 888888);
        x.set(4, 1);
        x.run(500);
        x.run(333);
        int wear = x.wear(0, 3);
        int burnt = x.count(7);
        int credit = x.digit(0, 4);
        int lit = x.digit(0, 11);
        int ahead = x.count(9);
        x.burn(0, 3, false);
        x.run(499);
        x.undo();
        x.undo();
        CHECKS.due("the wear is back", x.wear(0, 3), wear);
        CHECKS.due("the burnt ones are back", x.count(7), burnt);
        CHECKS.due("the credit is back", x.digit(0, 4), credit);
        CHECKS.due("the lit slots are back", x.digit(0, 11), lit);
        CHECKS.due("the one ahead is back", x.count(9), ahead);
        CHECKS.due("the slots are back", x.count(0), 833);
    }
}
