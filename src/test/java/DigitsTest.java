/** Promises 1 to 8: a new object, and the calls that change the digits. */
public final class DigitsTest {
    private static final Checks CHECKS = new Checks("DigitsTest");

    public static void main(String[] args) {
        newObject();
        show();
        level();
        burn();
        ambient();
        set();
        numberFits();
        numberRefused();
        runShares();
        runDark();
        runWears();
        runEnds();
        CHECKS.end();
    }

    private static void newObject() {
        TurnDigits x = new TurnDigits();
        int[] first = {11, 4, 0, 0, 0, 166, 5, 0, 1, 1, 1 << 11, 0};
        for (int d = 0; d < 6; d++) {
            for (int what = 0; what < 12; what++) {
                CHECKS.due("new digit(" + d + ", " + what + ")", x.digit(d, what), first[what]);
            }
            for (int k = 0; k < 7; k++) {
                CHECKS.due("new wear(" + d + ", " + k + ")", x.wear(d, k), 0);
            }
        }
        int[] counts = {0, 24, 0, 23, 0, 6, 6, 0, 2, TurnDigits.NONE, 0};
        for (int what = 0; what < counts.length; what++) {
            CHECKS.due("new count(" + what + ")", x.count(what), counts[what]);
        }
        int[] settings = {24, 0, 12, 10, 0};
        for (int k = 0; k < settings.length; k++) {
            CHECKS.due("new setting(" + k + ")", x.setting(k), settings[k]);
        }
        CHECKS.due("new clearBuffer()", x.clearBuffer(), 0);
        CHECKS.refusedState(x, "new undo()", x::undo);
        TurnDigits other = new TurnDigits();
        x.show(0, 3);
        x.append('5');
        CHECKS.due("the other's sign", other.digit(0, 0), 11);
        CHECKS.due("the other's buffer", other.clearBuffer(), 0);
    }

    private static void show() {
        TurnDigits x = new TurnDigits();
        int previous = 11;
        for (int sign = 0; sign < 12; sign++) {
            CHECKS.due("show(5, " + sign + ")", x.show(5, sign), previous);
            CHECKS.due("its sign", x.digit(5, 0), sign);
            CHECKS.due("its segments", x.digit(5, 3), Checks.MASKS[sign]);
            CHECKS.due("another sign", x.digit(4, 0), 11);
            previous = sign;
        }
        x.run(1);
        x.show(0, 8);
        CHECKS.due("the credit behind show", x.digit(0, 4), -20);
        TurnDigits y = new TurnDigits();
        CHECKS.due("show of the same", y.show(0, 11), 11);
        CHECKS.due("saved by show of the same", y.count(10), 1);
        CHECKS.refusedIndex(y, "show(6, 0)", () -> y.show(6, 0));
        CHECKS.refusedIndex(y, "show(-1, 12)", () -> y.show(-1, 12));
        CHECKS.refusedIndex(y, "show(least, 0)", () -> y.show(Integer.MIN_VALUE, 0));
        CHECKS.refusedArgument(y, "show(0, 12)", () -> y.show(0, 12));
        CHECKS.refusedArgument(y, "show(0, -1)", () -> y.show(0, -1));
        CHECKS.refusedArgument(y, "show(5, greatest)", () -> y.show(5, Integer.MAX_VALUE));
    }

    private static void level() {
        TurnDigits x = new TurnDigits();
        x.run(2);
        CHECKS.due("a credit behind run", x.digit(0, 4), -16);
        CHECKS.due("level of the same", x.level(5, 4), 4);
        for (int d = 0; d < 6; d++) {
            CHECKS.due("the credit behind level", x.digit(d, 4), 0);
        }
        CHECKS.due("the one ahead behind level", x.count(9), 1);
        CHECKS.due("saved by level of the same", x.count(10), 2);
        CHECKS.due("level(5, 15)", x.level(5, 15), 4);
        CHECKS.due("level(5, 0)", x.level(5, 0), 15);
        CHECKS.due("its level", x.digit(5, 1), 0);
        CHECKS.due("another level", x.digit(0, 1), 4);
        CHECKS.due("the sum of levels", x.count(1), 20);
        CHECKS.refusedIndex(x, "level(6, 16)", () -> x.level(6, 16));
        CHECKS.refusedIndex(x, "level(-1, 0)", () -> x.level(-1, 0));
        x.run(1);
        CHECKS.refusedArgument(x, "level(0, 16)", () -> x.level(0, 16));
        CHECKS.refusedArgument(x, "level(0, -1)", () -> x.level(0, -1));
        CHECKS.due("the credit behind a refused level", x.digit(0, 4), -16);
    }

    private static void burn() {
        TurnDigits x = new TurnDigits();
        x.show(0, 8);
        CHECKS.due("burn(0, 6, true)", x.burn(0, 6, true), 0);
        CHECKS.due("burn(0, 0, true)", x.burn(0, 0, true), 0);
        CHECKS.due("burn(0, 6, true) again", x.burn(0, 6, true), 1);
        CHECKS.due("burnt segments", x.digit(0, 2), 65);
        CHECKS.due("shown segments", x.digit(0, 3), 62);
        CHECKS.due("burnt segments of another", x.digit(1, 2), 0);
        CHECKS.due("burnt in all", x.count(7), 2);
        x.run(12);
        CHECKS.due("wear of a burnt one", x.wear(0, 6), 0);
        CHECKS.due("wear of a shown one", x.wear(0, 1), 2);
        CHECKS.due("mending", x.burn(0, 6, false), 1);
        CHECKS.due("mended", x.digit(0, 2), 1);
        CHECKS.due("burning a worn one", x.burn(0, 1, true), 0);
        CHECKS.due("burning keeps the wear", x.wear(0, 1), 2);
        CHECKS.due("mending a worn one", x.burn(0, 1, false), 1);
        CHECKS.due("mending ends the wear", x.wear(0, 1), 0);
        CHECKS.due("mending one that is not burnt", x.burn(0, 2, false), 0);
        CHECKS.due("it ends the wear too", x.wear(0, 2), 0);
        CHECKS.due("the wear of its neighbour", x.wear(0, 3), 2);
        CHECKS.due("the last segment of the last digit", x.burn(5, 6, true), 0);
        CHECKS.due("its mask", x.digit(5, 2), 64);
        CHECKS.due("saved", x.count(10), 6);
        CHECKS.refusedIndex(x, "burn(6, 0)", () -> x.burn(6, 0, true));
        CHECKS.refusedIndex(x, "burn(-1, 0)", () -> x.burn(-1, 0, false));
        CHECKS.refusedIndex(x, "burn(0, 7)", () -> x.burn(0, 7, true));
        CHECKS.refusedIndex(x, "burn(0, -1)", () -> x.burn(0, -1, false));
    }

    private static void ambient() {
        TurnDigits x = new TurnDigits();
        CHECKS.due("ambient(20)", x.ambient(20), 2);
        CHECKS.due("seen at 20", x.count(5), 0);
        CHECKS.due("ambient(0)", x.ambient(0), 20);
        CHECKS.due("the light around", x.count(8), 0);
        CHECKS.due("ambient(16)", x.ambient(16), 0);
        CHECKS.due("seen at 16, as 166 is at least 160", x.count(5), 6);
        CHECKS.due("ambient(17)", x.ambient(17), 16);
        CHECKS.due("seen at 17, as 166 is less than 170", x.count(5), 0);
        CHECKS.due("ambient of the same", x.ambient(17), 17);
        CHECKS.due("saved", x.count(10), 5);
        CHECKS.refusedArgument(x, "ambient(21)", () -> x.ambient(21));
        CHECKS.refusedArgument(x, "ambient(-1)", () -> x.ambient(-1));
    }

    private static void set() {
        int[] least = {6, 0, 1, 1, 0};
        int[] most = {96, 1, 96, 20, 99};
        int[] first = {24, 0, 12, 10, 0};
        TurnDigits x = new TurnDigits();
        for (int k = 0; k < 5; k++) {
            int setting = k;
            CHECKS.due("set(" + k + ") to the least", x.set(k, least[k]), first[k]);
            CHECKS.due("the setting " + k, x.setting(k), least[k]);
            CHECKS.due("set(" + k + ") to the most", x.set(k, most[k]), least[k]);
            CHECKS.due("the setting " + k, x.setting(k), most[k]);
            CHECKS.refusedArgument(x, "set(" + k + ") below", () -> x.set(setting, least[setting] - 1));
            CHECKS.refusedArgument(x, "set(" + k + ") above", () -> x.set(setting, most[setting] + 1));
            CHECKS.due("set(" + k + ") back", x.set(k, first[k]), most[k]);
        }
        CHECKS.due("saved", x.count(10), 6);
        CHECKS.refusedIndex(x, "set(5, 1000)", () -> x.set(5, 1000));
        CHECKS.refusedIndex(x, "set(-1, 0)", () -> x.set(-1, 0));
        x.run(1);
        x.set(0, 6);
        CHECKS.due("the credit behind set", x.digit(0, 4), -20);
        TurnDigits y = new TurnDigits();
        y.set(1, 0);
        CHECKS.due("saved by set of the same", y.count(10), 1);
    }

    private static void numberIs(int first, int last, int number, int shown, int... signs) {
        TurnDigits x = new TurnDigits();
        for (int d = 0; d < 6; d++) {
            x.show(d, 7);
        }
        String call = "number(" + first + ", " + last + ", " + number + ")";
        CHECKS.due(call, x.number(first, last, number), shown);
        for (int d = 0; d < 6; d++) {
            CHECKS.due(call + ", its digit " + d, x.digit(d, 0), signs[d]);
        }
        x.undo();
        CHECKS.due(call + " undone", x.digit(last, 0), 7);
    }

    private static void numberFits() {
        numberIs(0, 5, 1234, 4, 11, 11, 1, 2, 3, 4);
        numberIs(0, 5, 0, 1, 11, 11, 11, 11, 11, 0);
        numberIs(0, 5, 999999, 6, 9, 9, 9, 9, 9, 9);
        numberIs(0, 5, 100000, 6, 1, 0, 0, 0, 0, 0);
        numberIs(0, 5, -99999, 6, 10, 9, 9, 9, 9, 9);
        numberIs(0, 5, -10, 3, 11, 11, 11, 10, 1, 0);
        numberIs(2, 4, -5, 2, 7, 7, 11, 10, 5, 7);
        numberIs(1, 3, 907, 3, 7, 9, 0, 7, 7, 7);
        numberIs(3, 3, 0, 1, 7, 7, 7, 0, 7, 7);
        numberIs(0, 0, 9, 1, 9, 7, 7, 7, 7, 7);
        numberIs(5, 5, 1, 1, 7, 7, 7, 7, 7, 1);
        TurnDigits x = new TurnDigits();
        x.run(1);
        x.number(0, 5, 8);
        CHECKS.due("the credit behind number", x.digit(0, 4), -20);
        CHECKS.due("saved by number, as one call", x.count(10), 2);
    }

    private static void numberRefused() {
        TurnDigits x = new TurnDigits();
        x.number(0, 5, 77);
        CHECKS.refusedIndex(x, "number(6, 6, 0)", () -> x.number(6, 6, 0));
        CHECKS.refusedIndex(x, "number(0, 6, 1000000)", () -> x.number(0, 6, 1000000));
        CHECKS.refusedIndex(x, "number(-1, 5, 0)", () -> x.number(-1, 5, 0));
        CHECKS.refusedIndex(x, "number(3, -1, 0)", () -> x.number(3, -1, 0));
        CHECKS.refusedArgument(x, "number(5, 4, 0)", () -> x.number(5, 4, 0));
        CHECKS.refusedArgument(x, "number(5, 0, 0)", () -> x.number(5, 0, 0));
        CHECKS.refusedArgument(x, "number(0, 0, 10)", () -> x.number(0, 0, 10));
        CHECKS.refusedArgument(x, "number(2, 2, -5)", () -> x.number(2, 2, -5));
        CHECKS.refusedArgument(x, "number(2, 4, 1000)", () -> x.number(2, 4, 1000));
        CHECKS.refusedArgument(x, "number(2, 4, -100)", () -> x.number(2, 4, -100));
        CHECKS.refusedArgument(x, "number(0, 5, 1000000)", () -> x.number(0, 5, 1000000));
        CHECKS.refusedArgument(x, "number(0, 5, -100000)", () -> x.number(0, 5, -100000));
        CHECKS.refusedArgument(x, "number(0, 5, least)", () -> x.number(0, 5, Integer.MIN_VALUE));
        CHECKS.refusedArgument(x, "number(0, 5, greatest)", () -> x.number(0, 5, Integer.MAX_VALUE));
    }

    /** With the levels 3 and 1 on the digits 1 and 2 the slots go 1, 1, 2, 1 and so on. */
    private static void runShares() {
        TurnDigits x = Checks.withLevels(0, 3, 1);
        int[] owners = {1, 1, 2, 1, 1, 1, 2, 1};
        int[] credits = {-1, -2, 1, 0, -1, -2, 1, 0};
        for (int k = 0; k < owners.length; k++) {
            CHECKS.due("run(1)", x.run(1), 0);
            CHECKS.due("the slot " + k, x.count(9), owners[k]);
            CHECKS.due("the credit of 1 behind it", x.digit(1, 4), credits[k]);
            CHECKS.due("the credit of 2 behind it", x.digit(2, 4), -credits[k]);
            CHECKS.due("slots that went by", x.count(0), k + 1);
        }
        CHECKS.due("slots of 1", x.digit(1, 11), 6);
        CHECKS.due("slots of 2", x.digit(2, 11), 2);
        CHECKS.due("slots of 0", x.digit(0, 11), 0);
        TurnDigits y = Checks.withLevels(0, 3, 1);
        y.run(8);
        CHECKS.due("8 slots at once: slots of 1", y.digit(1, 11), 6);
        CHECKS.due("saved by run, as one call", y.count(10), 6);
        y.undo();
        CHECKS.due("8 slots undone at once", y.count(0), 0);
    }

    private static void runDark() {
        TurnDigits x = Checks.withLevels(0, 3, 1);
        x.show(1, 1);
        x.set(1, 1);
        CHECKS.due("run(8) with dark slots", x.run(8), 0);
        CHECKS.due("run(1) more", x.run(1), 0);
        x.undo();
        CHECKS.due("lit slots of 1, dark at 0, 3 and 7", x.digit(1, 11), 3);
        CHECKS.due("lit slots of 2, always behind a change", x.digit(2, 11), 0);
        CHECKS.due("wear counts lit slots alone", x.wear(1, 1), 3);
        CHECKS.due("who has a dark slot is told", x.count(9), 1);
        TurnDigits nobody = new TurnDigits();
        for (int d = 0; d < 6; d++) {
            nobody.level(d, 0);
        }
        nobody.run(3);
        CHECKS.due("nobody has a slot", nobody.count(9), TurnDigits.NONE);
        nobody.set(1, 1);
        nobody.level(4, 2);
        nobody.run(1);
        CHECKS.due("dark behind nobody's slot", nobody.digit(4, 11), 0);
        nobody.run(1);
        CHECKS.due("lit behind its own dark slot", nobody.digit(4, 11), 1);
    }

    private static void runWears() {
        TurnDigits x = new TurnDigits();
        for (int d = 1; d < 6; d++) {
            x.level(d, 0);
        }
        x.show(0, 1);
        x.set(4, 1);
        CHECKS.due("run(99)", x.run(99), 0);
        CHECKS.due("burnt ahead of the end of life", x.digit(0, 2), 0);
        CHECKS.due("run(1) to the end of life", x.run(1), 2);
        CHECKS.due("burnt behind it", x.digit(0, 2), 6);
        x.undo();
        CHECKS.due("run(6) over the end of life", x.run(6), 2);
        x.undo();
        x.run(1);
        CHECKS.due("run(5) of burnt ones", x.run(5), 0);
        CHECKS.due("wear of a burnt one stays", x.wear(0, 1), 100);
        CHECKS.due("wear of one that is not shown", x.wear(0, 0), 0);
        CHECKS.due("the digit is lit all the same", x.digit(0, 11), 105);
        CHECKS.due("mend", x.burn(0, 1, false), 1);
        CHECKS.due("run(100) behind mending", x.run(100), 1);
        CHECKS.due("its wear", x.wear(0, 1), 100);
        x.set(4, 0);
        x.show(0, 8);
        CHECKS.due("run(500) without an end of life", x.run(500), 0);
        CHECKS.due("its wear grows on", x.wear(0, 6), 500);
        x.set(4, 2);
        x.show(0, 10);
        CHECKS.due("a late end of life burns what is shown", x.run(1), 1);
        CHECKS.due("and nothing else", x.digit(0, 2), 6 + 64);
        x.set(4, 99);
        x.show(0, 8);
        CHECKS.due("a long life", x.run(500), 0);
        CHECKS.due("its wear", x.wear(0, 0), 1000);
        CHECKS.due("no wear of burnt ones", x.wear(0, 6), 501);
    }

    private static void runEnds() {
        TurnDigits x = new TurnDigits();
        CHECKS.refusedArgument(x, "run(0)", () -> x.run(0));
        CHECKS.refusedArgument(x, "run(-1)", () -> x.run(-1));
        CHECKS.refusedArgument(x, "run(501)", () -> x.run(501));
        CHECKS.refusedArgument(x, "run(greatest)", () -> x.run(Integer.MAX_VALUE));
        for (int k = 0; k < 199; k++) {
            x.run(500);
        }
        CHECKS.refusedState(x, "run(500) from 99500", () -> x.run(500));
        CHECKS.refusedArgument(x, "run(501) from 99500", () -> x.run(501));
        CHECKS.due("run(499) from 99500", x.run(499), 0);
        CHECKS.due("slots that went by", x.count(0), 99999);
        CHECKS.refusedState(x, "run(1) from 99999", () -> x.run(1));
        CHECKS.refusedArgument(x, "run(0) from 99999", () -> x.run(0));
        x.undo();
        CHECKS.due("run(1) behind undo", x.run(1), 0);
        CHECKS.due("slots that went by then", x.count(0), 99501);
    }
}
