/** Promises 14 to 18: the looks, which change nothing. */
public final class LooksTest {
    private static final int NONE = TurnDigits.NONE;
    private static final Checks CHECKS = new Checks("LooksTest");

    public static void main(String[] args) {
        readable();
        light();
        gap();
        gapOfTheFrameAlone();
        flickers();
        seen();
        clear();
        frameGoesOn();
        wear();
        slot();
        counts();
        setting();
        refused();
        nothingChanges();
        CHECKS.end();
    }

    private static void readable() {
        TurnDigits x = new TurnDigits();
        for (int sign = 0; sign < 12; sign++) {
            x.show(0, sign);
            CHECKS.due("digit(0, 10) of " + sign, x.digit(0, 10), 1 << sign);
        }
        x.show(0, 8);
        x.burn(0, 6, true);
        CHECKS.due("8 without 6 shows", x.digit(0, 3), 63);
        CHECKS.due("8 without 6 is 0 or 8", x.digit(0, 10), 1 | 1 << 8);
        x.show(0, 10);
        CHECKS.due("a minus without 6 is a minus or nothing", x.digit(0, 10), 1 << 10 | 1 << 11);
        x.show(0, 1);
        CHECKS.due("1 without 6", x.digit(0, 10), 1 << 1);
        x.burn(0, 0, true);
        CHECKS.due("1 without 0 and 6 is 1 or 7", x.digit(0, 10), 1 << 1 | 1 << 7);
        for (int k = 0; k < 7; k++) {
            x.burn(0, k, true);
        }
        CHECKS.due("with all burnt", x.digit(0, 10), 4095);
        CHECKS.due("with all burnt, shown", x.digit(0, 3), 0);
        CHECKS.due("the sign of a burnt one stays", x.digit(0, 0), 1);
    }

    private static void light() {
        TurnDigits x = Checks.withLevels(0, 3, 1);
        CHECKS.due("light of 18 slots of 24", x.digit(1, 5), 750);
        CHECKS.due("light of 6 slots of 24", x.digit(2, 5), 250);
        CHECKS.due("light of none", x.digit(0, 5), 0);
        x.set(0, 7);
        CHECKS.due("light of 5 slots of 7", x.digit(1, 5), 714);
        CHECKS.due("light of 2 slots of 7", x.digit(2, 5), 285);
        x.set(1, 1);
        CHECKS.due("light of the slots 1, 4 and 5, that are no changes", x.digit(1, 5), 428);
        CHECKS.due("light of changes alone", x.digit(2, 5), 0);
    }

    private static void gap() {
        TurnDigits x = Checks.withLevels(0, 3, 1);
        CHECKS.due("gap of one slot", x.digit(1, 6), 1);
        CHECKS.due("gap of three slots", x.digit(2, 6), 3);
        CHECKS.due("gap of all slots", x.digit(0, 6), 24);
        x.run(3);
        CHECKS.due("gap of three slots, from 2's last but one on", x.digit(2, 6), 3);
        TurnDigits alone = Checks.withLevels(0, 0, 0, 1);
        CHECKS.due("gap of none", alone.digit(3, 6), 0);
        alone.set(1, 1);
        CHECKS.due("gap of the dark slot 0", alone.digit(3, 6), 1);
    }

    /** Neither what went by nor what comes behind the frame makes a gap longer. */
    private static void gapOfTheFrameAlone() {
        TurnDigits x = Checks.withLevels(4, 4, 4, 4, 4, 4);
        x.set(0, 6);
        CHECKS.due("gap ahead of the last slot", x.digit(5, 6), 5);
        CHECKS.due("gap behind the first slot", x.digit(0, 6), 5);
        CHECKS.due("gap on both sides of a slot", x.digit(2, 6), 3);
        CHECKS.due("gap on both sides of another", x.digit(3, 6), 3);
        x.run(500);
        CHECKS.due("gap behind 500 slots", x.digit(2, 6), 5);
    }

    private static void flickers() {
        TurnDigits x = Checks.withLevels(0, 3, 1);
        x.set(2, 3);
        CHECKS.due("a gap of 3 at 3", x.digit(2, 7), 0);
        x.set(2, 2);
        CHECKS.due("a gap of 3 at 2", x.digit(2, 7), 1);
        CHECKS.due("a gap of 1 at 2", x.digit(1, 7), 0);
        CHECKS.due("a digit that is never lit", x.digit(0, 7), 0);
        CHECKS.due("digits that flicker", x.count(4), 1);
        CHECKS.due("one that flickers is not seen", x.digit(2, 8), 0);
        CHECKS.due("one that does not is", x.digit(1, 8), 1);
        CHECKS.due("digits that are seen", x.count(5), 1);
        TurnDigits once = Checks.withLevels(1, 15);
        once.set(0, 16);
        once.set(2, 7);
        CHECKS.due("a digit that is lit once", once.digit(0, 5), 1000 / 16);
        CHECKS.due("a gap of 8 at 7", once.digit(0, 7), 1);
        CHECKS.due("the first digit is counted", once.count(4), 1);
        once.set(2, 8);
        CHECKS.due("a gap of 8 at 8", once.digit(0, 7), 0);
        CHECKS.due("no digit flickers", once.count(4), 0);
        TurnDigits last = Checks.withLevels(0, 15, 0, 0, 0, 1);
        CHECKS.due("the last digit is counted", last.count(4), 1);
    }

    private static void seen() {
        TurnDigits x = Checks.withLevels(0, 3, 1);
        x.set(3, 1);
        x.ambient(0);
        CHECKS.due("seen without ambient light", x.digit(2, 8), 1);
        CHECKS.due("one that is never lit", x.digit(0, 8), 0);
        x.set(3, 20);
        x.ambient(12);
        CHECKS.due("a light of 250 at 240", x.digit(2, 8), 1);
        x.ambient(13);
        CHECKS.due("a light of 250 at 260", x.digit(2, 8), 0);
        CHECKS.due("a light of 750 at 260", x.digit(1, 8), 1);
        x.set(3, 10);
        CHECKS.due("a light of 250 at 130", x.digit(2, 8), 1);
        x.set(3, 15);
        x.ambient(10);
        x.set(0, 20);
        CHECKS.due("a light of 250 at 150", x.digit(2, 5), 250);
        x.set(3, 20);
        CHECKS.due("a light of 250 at 200", x.digit(2, 8), 1);
        TurnDigits edge = Checks.withLevels(4, 4, 4, 4, 4);
        CHECKS.due("a light of 5 slots of 24", edge.digit(0, 5), 208);
        edge.set(0, 20);
        edge.set(3, 20);
        edge.ambient(10);
        CHECKS.due("a light of 200 at 200", edge.digit(0, 8), 1);
        edge.ambient(11);
        CHECKS.due("a light of 200 at 220", edge.digit(0, 8), 0);
    }

    private static void clear() {
        TurnDigits x = Checks.withLevels(4, 4);
        CHECKS.due("nothing is clear as well", x.digit(0, 9), 1);
        CHECKS.due("one that is not seen is not clear", x.digit(2, 9), 0);
        CHECKS.due("though it can be read as one sign", x.digit(2, 10), 1 << 11);
        x.show(0, 8);
        CHECKS.due("8 is clear", x.digit(0, 9), 1);
        x.burn(0, 6, true);
        CHECKS.due("8 without 6 is not", x.digit(0, 9), 0);
        CHECKS.due("but it is seen", x.digit(0, 8), 1);
        CHECKS.due("digits that are clear", x.count(6), 1);
        CHECKS.due("digits that are seen", x.count(5), 2);
        x.show(0, 1);
        CHECKS.due("1 without 6 is clear", x.digit(0, 9), 1);
    }

    private static void frameGoesOn() {
        TurnDigits x = Checks.withLevels(0, 3, 1);
        int[] owners = {1, 1, 2, 1};
        x.set(1, 1);
        for (int gone = 0; gone < 9; gone++) {
            for (int k = 0; k < 24; k++) {
                int owner = owners[(gone + k) % 4];
                boolean isFirst = gone + k == 0;
                boolean isLit = !isFirst && owner == owners[(gone + k + 3) % 4];
                CHECKS.due("slot " + k + " from " + gone, x.slot(k, false), owner);
                CHECKS.due("lit slot " + k + " from " + gone, x.slot(k, true), isLit ? owner : NONE);
            }
            x.run(1);
        }
    }

    private static void wear() {
        TurnDigits x = Checks.withLevels(0, 0, 4, 0, 0, 2);
        x.show(5, 7);
        x.show(2, 1);
        x.run(9);
        CHECKS.due("wear(5, 0)", x.wear(5, 0), 3);
        CHECKS.due("wear(5, 3)", x.wear(5, 3), 0);
        CHECKS.due("wear(5, 6)", x.wear(5, 6), 0);
        CHECKS.due("wear(2, 1)", x.wear(2, 1), 6);
        CHECKS.due("wear(2, 2)", x.wear(2, 2), 6);
        CHECKS.due("wear(2, 0)", x.wear(2, 0), 0);
        x.show(5, 8);
        x.run(3);
        CHECKS.due("wear(5, 0) goes on", x.wear(5, 0), 4);
        CHECKS.due("wear(5, 6) begins", x.wear(5, 6), 1);
    }

    private static void slot() {
        TurnDigits x = Checks.withLevels(0, 0, 0, 0, 0, 0);
        CHECKS.due("nobody's slot", x.slot(0, false), NONE);
        CHECKS.due("nobody's slot, lit", x.slot(23, true), NONE);
        x.level(5, 1);
        CHECKS.due("the only one's slot", x.slot(23, false), 5);
        x.set(0, 96);
        CHECKS.due("slot(95)", x.slot(95, true), 5);
        CHECKS.refusedArgument(x, "slot(96)", () -> x.slot(96, true));
        x.set(0, 6);
        CHECKS.due("slot(5)", x.slot(5, false), 5);
        CHECKS.refusedArgument(x, "slot(6)", () -> x.slot(6, false));
        CHECKS.refusedArgument(x, "slot(-1)", () -> x.slot(-1, false));
        TurnDigits tie = Checks.withLevels(0, 7, 7, 0, 7, 0);
        CHECKS.due("of several the lowest one", tie.slot(0, false), 1);
        CHECKS.due("then the next one", tie.slot(1, false), 2);
        CHECKS.due("then the last one", tie.slot(2, false), 4);
    }

    private static void counts() {
        TurnDigits x = Checks.withLevels(0, 3, 1);
        x.set(0, 8);
        CHECKS.due("the sum of levels", x.count(1), 4);
        CHECKS.due("no dark slots", x.count(2), 0);
        CHECKS.due("changes in 11211121", x.count(3), 4);
        x.run(2);
        CHECKS.due("changes in 21112111, the first slot is none", x.count(3), 3);
        x.set(1, 1);
        CHECKS.due("dark slots are 2, 1, 2, 1", x.count(2), 4);
        CHECKS.due("slots that went by", x.count(0), 2);
        CHECKS.due("the one ahead", x.count(9), 1);
        CHECKS.due("saved states", x.count(10), 6);
        x.burn(0, 1, true);
        x.burn(5, 6, true);
        CHECKS.due("burnt segments", x.count(7), 2);
        TurnDigits nobody = Checks.withLevels(0, 0);
        CHECKS.due("nobody's slots are dark", nobody.count(2), 24);
        CHECKS.due("nobody's slots have no changes", nobody.count(3), 0);
        nobody.set(0, 96);
        CHECKS.due("96 dark slots", nobody.count(2), 96);
        nobody.set(0, 6);
        CHECKS.due("6 dark slots of a shorter frame", nobody.count(2), 6);
        TurnDigits all = new TurnDigits();
        CHECKS.due("changes in a long frame", all.count(3), 23);
        all.set(0, 6);
        CHECKS.due("changes in a shorter frame", all.count(3), 5);
    }

    private static void setting() {
        TurnDigits x = new TurnDigits();
        x.set(4, 99);
        CHECKS.due("setting(4)", x.setting(4), 99);
        CHECKS.due("setting(0)", x.setting(0), 24);
        CHECKS.refusedIndex(x, "setting(5)", () -> x.setting(5));
        CHECKS.refusedIndex(x, "setting(-1)", () -> x.setting(-1));
    }

    private static void refused() {
        TurnDigits x = new TurnDigits();
        CHECKS.refusedIndex(x, "digit(6, 12)", () -> x.digit(6, 12));
        CHECKS.refusedIndex(x, "digit(-1, 0)", () -> x.digit(-1, 0));
        CHECKS.refusedArgument(x, "digit(0, 12)", () -> x.digit(0, 12));
        CHECKS.refusedArgument(x, "digit(5, -1)", () -> x.digit(5, -1));
        CHECKS.refusedIndex(x, "wear(6, 0)", () -> x.wear(6, 0));
        CHECKS.refusedIndex(x, "wear(-1, 0)", () -> x.wear(-1, 0));
        CHECKS.refusedIndex(x, "wear(0, 7)", () -> x.wear(0, 7));
        CHECKS.refusedIndex(x, "wear(5, -1)", () -> x.wear(5, -1));
        CHECKS.refusedArgument(x, "count(11)", () -> x.count(11));
        CHECKS.refusedArgument(x, "count(-1)", () -> x.count(-1));
    }

    private static void nothingChanges() {
        TurnDigits x = Checks.withLevels(5, 3, 1, 9);
        x.set(1, 1);
        x.number(0, 5, -417);
        x.run(29);
        long before = x.digest();
        for (int d = 0; d < 6; d++) {
            for (int what = 0; what < 12; what++) {
                x.digit(d, what);
            }
            x.wear(d, 1);
        }
        for (int what = 0; what < 11; what++) {
            x.count(what);
        }
        x.slot(11, true);
        x.setting(2);
        CHECKS.due("the digest behind the looks", x.digest(), before);
    }
}
