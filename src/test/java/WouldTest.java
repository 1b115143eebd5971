/** Promises 19 to 24: what would be, which changes nothing. */
public final class WouldTest {
    private static final int NONE = TurnDigits.NONE;
    private static final Checks CHECKS = new Checks("WouldTest");

    public static void main(String[] args) {
        ifLevel();
        ifLevelIsAsLevel();
        leastLevel();
        alikeSigns();
        numberShown();
        numberNotClear();
        evenness();
        digest();
        refused();
        CHECKS.end();
    }

    private static void ifLevel() {
        TurnDigits x = Checks.withLevels(0, 3);
        CHECKS.due("the light of 2 with 1 beside 3", x.ifLevel(2, 1, 0), 250);
        CHECKS.due("seen then", x.ifLevel(2, 1, 1), 2);
        CHECKS.due("flickering then", x.ifLevel(2, 1, 2), 0);
        x.set(2, 2);
        CHECKS.due("seen with less persistence", x.ifLevel(2, 1, 1), 1);
        CHECKS.due("flickering with less persistence", x.ifLevel(2, 1, 2), 1);
        CHECKS.due("the light with 0", x.ifLevel(1, 0, 0), 0);
        CHECKS.due("seen with 0", x.ifLevel(1, 0, 1), 0);
        CHECKS.due("flickering with 0", x.ifLevel(1, 0, 2), 0);
        CHECKS.due("the level stays", x.digit(2, 1), 0);
        x.set(1, 1);
        x.run(1);
        CHECKS.due("lit behind its own slot", x.ifLevel(1, 15, 0), 1000);
        x.level(4, 15);
        x.level(1, 0);
        CHECKS.due("dark behind another one's slot", x.ifLevel(4, 15, 0), 23 * 1000 / 24);
    }

    /** A level is changed in truth, and undone: what would be is what is then. */
    private static void ifLevelIsAsLevel() {
        for (int d = 0; d < 6; d++) {
            TurnDigits x = Checks.withLevels(2, 7, 0, 1, 15, 3);
            x.set(2, 7);
            x.set(1, 1);
            x.run(13);
            for (int level = 0; level <= 15; level++) {
                int light = x.ifLevel(d, level, 0);
                int seen = x.ifLevel(d, level, 1);
                int flickering = x.ifLevel(d, level, 2);
                x.level(d, level);
                CHECKS.due("light of " + d + " with " + level, light, x.digit(d, 5));
                CHECKS.due("seen with " + level + " of " + d, seen, x.count(5));
                CHECKS.due("flickering with " + level + " of " + d, flickering, x.count(4));
                x.undo();
            }
        }
    }

    private static void leastLevel() {
        TurnDigits x = Checks.withLevels(0, 3);
        x.ambient(20);
        CHECKS.due("the least for a light of 200", x.leastLevel(2), 1);
        x.set(2, 2);
        CHECKS.due("the least for a gap of 2", x.leastLevel(2), 2);
        x.set(2, 1);
        CHECKS.due("the least for a gap of 1", x.leastLevel(2), 3);
        x.set(3, 20);
        CHECKS.due("the least for a light of 400", x.leastLevel(2), 3);
        CHECKS.due("the only one's", x.leastLevel(1), 1);
        x.level(1, 15);
        CHECKS.due("the least beside 15, as 13 makes a gap of 2", x.leastLevel(2), 14);
        x.set(0, 96);
        CHECKS.due("the least beside 15 in a long frame", x.leastLevel(2), 15);
        x.level(0, 15);
        CHECKS.due("none beside 15 and 15", x.leastLevel(2), NONE);
        CHECKS.due("the level stays", x.digit(2, 1), 0);
    }

    private static void burnAll(TurnDigits x, int digit, int mask) {
        for (int k = 0; k < 7; k++) {
            x.burn(digit, k, (mask >> k & 1) == 1);
        }
    }

    private static void alikeSigns() {
        TurnDigits x = new TurnDigits();
        CHECKS.due("none alike", x.alikeSigns(0), 0);
        burnAll(x, 0, 64);
        CHECKS.due("0 and 8, minus and nothing", x.alikeSigns(0), 2);
        burnAll(x, 0, 1);
        CHECKS.due("1 and 7", x.alikeSigns(0), 1);
        burnAll(x, 0, 16);
        CHECKS.due("5 and 6, 8 and 9", x.alikeSigns(0), 2);
        burnAll(x, 0, 64 + 16);
        CHECKS.due("0, 8 and 9; 5 and 6; minus and nothing", x.alikeSigns(0), 5);
        burnAll(x, 0, 127);
        CHECKS.due("all alike", x.alikeSigns(0), 66);
        CHECKS.due("on another digit", x.alikeSigns(5), 0);
    }

    private static void shows(long number, int... signs) {
        TurnDigits x = new TurnDigits();
        for (int d = 0; d < 6; d++) {
            x.show(d, signs[d]);
        }
        CHECKS.due("numberShown() for " + number, x.numberShown(), number);
    }

    private static void numberShown() {
        shows(NONE, 11, 11, 11, 11, 11, 11);
        shows(0, 11, 11, 11, 11, 11, 0);
        shows(7, 11, 11, 11, 11, 0, 7);
        shows(123456, 1, 2, 3, 4, 5, 6);
        shows(0, 0, 0, 0, 0, 0, 0);
        shows(-99999, 10, 9, 9, 9, 9, 9);
        shows(-70, 11, 11, 11, 10, 7, 0);
        shows(-5, 11, 11, 11, 11, 10, 5);
        shows(0, 11, 11, 11, 11, 10, 0);
        shows(-1, 11, 11, 11, 11, 10, 1);
        shows(NONE, 11, 11, 11, 11, 11, 10);
        shows(NONE, 11, 11, 11, 11, 10, 11);
        shows(NONE, 11, 11, 11, 10, 10, 5);
        shows(NONE, 11, 11, 11, 5, 10, 5);
        shows(NONE, 11, 11, 11, 5, 11, 5);
        shows(NONE, 11, 11, 11, 10, 11, 5);
        shows(NONE, 1, 2, 3, 4, 5, 11);
        shows(NONE, 1, 11, 11, 11, 11, 11);
    }

    private static void numberNotClear() {
        TurnDigits x = new TurnDigits();
        x.number(0, 5, -70);
        x.level(0, 0);
        x.burn(1, 6, true);
        CHECKS.due("nothing need not be clear", x.numberShown(), -70);
        x.burn(4, 6, true);
        CHECKS.due("7 without 6 is clear", x.numberShown(), -70);
        x.burn(4, 0, true);
        CHECKS.due("7 without 0 and 6 is not", x.numberShown(), NONE);
        x.undo();
        x.burn(3, 6, true);
        CHECKS.due("a minus without 6 is not", x.numberShown(), NONE);
        x.undo();
        x.burn(5, 6, true);
        CHECKS.due("0 without 6 is not", x.numberShown(), NONE);
        x.undo();
        x.level(5, 0);
        CHECKS.due("a digit without light", x.numberShown(), NONE);
        x.undo();
        x.level(3, 0);
        CHECKS.due("a minus without light", x.numberShown(), NONE);
        x.undo();
        CHECKS.due("all undone", x.numberShown(), -70);
        x.ambient(16);
        CHECKS.due("166 at 160", x.numberShown(), -70);
        x.ambient(17);
        CHECKS.due("166 at 170", x.numberShown(), NONE);
    }

    private static void evenness() {
        CHECKS.dueShare("all even", new TurnDigits().evenness(), 1.0);
        CHECKS.dueShare("3 and 1", Checks.withLevels(0, 3, 1).evenness(), 250.0 / 750.0);
        CHECKS.dueShare("the first digit's share is the least", Checks.withLevels(1, 3).evenness(), 250.0 / 750.0);
        CHECKS.dueShare("the first digit's share is the greatest",
                Checks.withLevels(3, 0, 1).evenness(), 250.0 / 750.0);
        CHECKS.dueShare("one alone", Checks.withLevels(0, 0, 0, 0, 0, 2).evenness(), 1.0);
        CHECKS.dueShare("no levels", Checks.withLevels(0, 0).evenness(), 1.0);
        TurnDigits starved = Checks.withLevels(15, 15, 1);
        starved.set(0, 6);
        CHECKS.dueShare("one that has a level but no light", starved.evenness(), 0.0);
        TurnDigits dark = Checks.withLevels(4, 4);
        dark.set(1, 1);
        CHECKS.dueShare("all dark", dark.evenness(), 1.0);
        TurnDigits floored = Checks.withLevels(0, 3, 1);
        floored.set(0, 7);
        CHECKS.dueShare("lights rounded down", floored.evenness(), 285.0 / 714.0);
    }

    /** The hash, made from the other calls' answers. */
    private static long digestOf(TurnDigits x, String buffer) {
        long hash = 2729;
        for (int what = 0; what <= 10; what++) {
            hash = 31 * hash + x.count(what);
        }
        for (int k = 0; k <= 4; k++) {
            hash = 31 * hash + x.setting(k);
        }
        for (int d = 0; d <= 5; d++) {
            for (int what = 0; what <= 11; what++) {
                hash = 31 * hash + x.digit(d, what);
            }
            for (int k = 0; k <= 6; k++) {
                hash = 31 * hash + x.wear(d, k);
            }
            for (int what = 0; what <= 2; what++) {
                hash = 31 * hash + x.ifLevel(d, 9, what);
            }
            hash = 31 * hash + x.leastLevel(d);
            hash = 31 * hash + x.alikeSigns(d);
        }
        for (int k = 0; k <= 5; k++) {
            hash = 31 * hash + x.slot(k, true);
            hash = 31 * hash + x.slot(k, false);
        }
        hash = 31 * hash + x.numberShown();
        hash = 31 * hash + Double.doubleToLongBits(x.evenness());
        hash = 31 * hash + buffer.length();
        for (int k = 0; k < buffer.length(); k++) {
            hash = 31 * hash + buffer.charAt(k);
        }
        return hash;
    }

    private static void digest() {
        TurnDigits x = new TurnDigits();
        CHECKS.due("digest() of a new object", x.digest(), digestOf(x, ""));
        Checks.type(x, "7*12-!~");
        CHECKS.due("digest() with a buffer", x.digest(), digestOf(x, "7*12-!~"));
        TurnDigits worn = new TurnDigits();
        worn.number(1, 5, -904);
        worn.set(1, 1);
        worn.set(4, 1);
        worn.level(3, 15);
        worn.run(500);
        worn.burn(2, 3, true);
        worn.ambient(0);
        CHECKS.due("digest() of a worn state", worn.digest(), digestOf(worn, ""));
        CHECKS.due("digest() again", worn.digest(), digestOf(worn, ""));
        for (int frame = 6; frame <= 96; frame++) {
            TurnDigits y = Checks.withLevels(frame % 16, 1 + frame % 3, 15, 0, frame / 7);
            y.set(0, frame);
            y.run(frame);
            CHECKS.due("digest() of a frame of " + frame, y.digest(), digestOf(y, ""));
        }
        TurnDigits dark = Checks.withLevels(1);
        dark.set(1, 1);
        CHECKS.due("digest() of dark slots", dark.digest(), digestOf(dark, ""));
    }

    private static void refused() {
        TurnDigits x = new TurnDigits();
        CHECKS.refusedIndex(x, "ifLevel(6, 16, 3)", () -> x.ifLevel(6, 16, 3));
        CHECKS.refusedIndex(x, "ifLevel(-1, 0, 0)", () -> x.ifLevel(-1, 0, 0));
        CHECKS.refusedArgument(x, "ifLevel(0, 16, 0)", () -> x.ifLevel(0, 16, 0));
        CHECKS.refusedArgument(x, "ifLevel(0, -1, 0)", () -> x.ifLevel(0, -1, 0));
        CHECKS.refusedArgument(x, "ifLevel(0, 0, 3)", () -> x.ifLevel(0, 0, 3));
        CHECKS.refusedArgument(x, "ifLevel(0, 0, -1)", () -> x.ifLevel(0, 0, -1));
        CHECKS.refusedIndex(x, "leastLevel(6)", () -> x.leastLevel(6));
        CHECKS.refusedIndex(x, "leastLevel(-1)", () -> x.leastLevel(-1));
        CHECKS.refusedIndex(x, "alikeSigns(6)", () -> x.alikeSigns(6));
        CHECKS.refusedIndex(x, "alikeSigns(-1)", () -> x.alikeSigns(-1));
    }
}
