/**
 * The boundary cases of the frame, of seeing and of the promises 14 to 18, each sentence of the
 * document with a test of its own. What is refused stands in RefusalsTest.
 */
public final class BoundsLooksTest {
    private static final int NONE = TurnDigits.NONE;
    private static final Checks CHECKS = new Checks("BoundsLooksTest");

    public static void main(String[] args) {
        frameLengths();
        frameFromNowOn();
        light();
        gap();
        gapEnds();
        gapHasNoTurn();
        flickers();
        flickersNever();
        seenAtTheEdge();
        seenWithoutAmbient();
        seenNot();
        clear();
        properties();
        litSlots();
        wear();
        slot();
        countZero();
        countDark();
        countChanges();
        countDigits();
        countOthers();
        setting();
        CHECKS.end();
    }

    private static TurnDigits frame(TurnDigits x, int length) {
        x.set(0, length);
        return x;
    }

    private static void frameLengths() {
        CHECKS.sentence("Slots: the frame is the next setting 0 slots; setting 0: 6 to 96");
        for (int length : new int[] {6, 7, 95, 96}) {
            TurnDigits x = frame(Checks.withLevels(0, 0, 3), length);
            CHECKS.due("the last slot of " + length, x.slot(length - 1, true), 2);
            CHECKS.refusedArgument(x, "the slot " + length, () -> x.slot(length, true));
            CHECKS.due("its light", x.digit(2, 5), 1000);
            CHECKS.due("its gap", x.digit(2, 6), 0);
            CHECKS.due("the gap of one that is not lit", x.digit(0, 6), length);
        }
        CHECKS.sentence("Slots: a frame that becomes shorter has nothing of the longer one");
        TurnDigits x = frame(Checks.withLevels(), 96);
        CHECKS.due("dark slots of 96", x.count(2), 96);
        CHECKS.due("dark slots of 6", frame(x, 6).count(2), 6);
        CHECKS.due("the gap then", x.digit(0, 6), 6);
        x.level(0, 1);
        CHECKS.due("dark slots of one that is lit", x.count(2), 0);
        CHECKS.due("its gap", x.digit(0, 6), 0);
    }

    private static void frameFromNowOn() {
        CHECKS.sentence("Slots: the frame is the slots from now on");
        int[] owners = {0, 1, 2, 3, 4, 5};
        TurnDigits x = frame(new TurnDigits(), 6);
        for (int gone = 0; gone < 13; gone++) {
            for (int k = 0; k < 6; k++) {
                CHECKS.due("slot " + k + " from " + gone, x.slot(k, false), owners[(gone + k) % 6]);
            }
            x.run(1);
            CHECKS.due("the slot that went by", x.count(9), owners[gone % 6]);
        }
        CHECKS.sentence("Slots: a look at the frame lets no slot go by");
        TurnDigits y = frame(Checks.withLevels(2, 3, 5), 96);
        long before = y.digest();
        for (int k = 0; k < 96; k++) {
            int owner = y.slot(k, false);
            CHECKS.due("slot " + k + " again", y.slot(k, false), owner);
        }
        CHECKS.due("the digest behind the looks", y.digest(), before);
    }

    private static void light() {
        CHECKS.sentence("Slots: the light is the slots in which it is lit, times 1000, divided by setting 0");
        int[] lengths = {6, 7, 11, 13, 24, 95, 96};
        int[] lights = {166, 142, 90, 76, 41, 10, 10};
        for (int k = 0; k < lengths.length; k++) {
            // The level 1 beside 15 has the slot 7 of 16; in a frame of 6 none.
            TurnDigits once = frame(Checks.withLevels(1, 15), lengths[k]);
            int slots = (lengths[k] + 8) / 16;
            CHECKS.due("lit " + slots + " times in " + lengths[k], once.digit(0, 5), slots * 1000 / lengths[k]);
            TurnDigits even = frame(new TurnDigits(), lengths[k]);
            CHECKS.due("one of six in " + lengths[k], even.digit(0, 5), (lengths[k] + 5) / 6 * 1000 / lengths[k]);
            CHECKS.due("the last of six in " + lengths[k], even.digit(5, 5), lengths[k] / 6 * 1000 / lengths[k]);
            CHECKS.due("one slot of " + lengths[k], 1000 / lengths[k], lights[k]);
        }
        CHECKS.sentence("Terms: divisions are rounded down");
        TurnDigits x = frame(new TurnDigits(), 7);
        CHECKS.due("1000 / 7", x.digit(1, 5), 142);
        CHECKS.due("2000 / 7", x.digit(0, 5), 285);
        TurnDigits long96 = frame(Checks.withLevels(1, 15, 15, 15, 15, 15), 76);
        CHECKS.due("1000 / 76", long96.digit(0, 5), 13);
        CHECKS.due("15000 / 76", long96.digit(1, 5), 197);
    }

    private static void gap() {
        CHECKS.sentence("Slots: the gap is the longest row of slots in which it is not lit");
        int[] gaps = {5, 4, 3, 3, 4, 5};
        TurnDigits x = frame(new TurnDigits(), 6);
        for (int d = 0; d < 6; d++) {
            CHECKS.due("the gap of " + d + " in 6", x.digit(d, 6), gaps[d]);
        }
        CHECKS.due("in 7 the digit 0 ends its row", frame(x, 7).digit(0, 6), 5);
        CHECKS.due("in 7 the row of 5 ahead of it", x.digit(5, 6), 5);
        CHECKS.due("in 7 the row behind 1", x.digit(1, 6), 5);
        TurnDigits last = frame(Checks.withLevels(0, 15, 0, 0, 0, 1), 8);
        CHECKS.due("7 slots ahead of its own", last.digit(5, 6), 8);
        CHECKS.due("its light", last.digit(5, 5), 0);
        CHECKS.due("in 9 it has the last slot", frame(last, 9).digit(5, 6), 8);
        CHECKS.due("its light then", last.digit(5, 5), 111);
    }

    private static void gapEnds() {
        CHECKS.sentence("Slots: rows at the start and at the end of the frame count as well");
        TurnDigits x = frame(Checks.withLevels(1, 15), 16);
        CHECKS.due("7 ahead and 8 behind", x.digit(0, 6), 8);
        CHECKS.due("7 ahead and none behind", frame(x, 8).digit(0, 6), 7);
        CHECKS.due("7 ahead and 7 behind", frame(x, 15).digit(0, 6), 7);
        CHECKS.due("a row of 15 between two", frame(x, 24).digit(0, 6), 15);
        CHECKS.sentence("Slots: a dark slot is one in which it is not lit");
        TurnDigits dark = frame(Checks.withLevels(0, 3, 1), 8);
        dark.set(1, 1);
        CHECKS.due("1 is lit in the slots 1, 4 and 5", dark.digit(1, 6), 2);
        CHECKS.due("2 is never lit", dark.digit(2, 6), 8);
        CHECKS.due("the light of 1", dark.digit(1, 5), 375);
    }

    private static void gapHasNoTurn() {
        CHECKS.sentence("Slots: a row is of slots of the frame alone, and does not go on from its end to its start");
        TurnDigits x = frame(Checks.withLevels(15, 1), 16);
        CHECKS.due("8 ahead and 7 behind", x.digit(1, 6), 8);
        x.run(500);
        CHECKS.due("4 ahead and 11 behind", x.digit(1, 6), 11);
        CHECKS.due("the slot with no more than 4 ahead", x.slot(4, true), 1);
    }

    private static void flickers() {
        CHECKS.sentence("Seeing: flickers if it is lit in some slot, and its gap is more than setting 2");
        TurnDigits x = new TurnDigits();
        x.set(2, 5);
        CHECKS.due("a gap of 5 at 5", x.digit(0, 7), 0);
        CHECKS.due("seen", x.count(5), 6);
        x.set(2, 4);
        for (int d = 0; d < 6; d++) {
            CHECKS.due("a gap of 5 at 4", x.digit(d, 7), 1);
            CHECKS.due("not seen", x.digit(d, 8), 0);
            CHECKS.due("not clear", x.digit(d, 9), 0);
        }
        TurnDigits two = Checks.withLevels(1, 1);
        two.set(2, 1);
        CHECKS.due("a gap of 1 at 1", two.digit(0, 7), 0);
        two.level(2, 1);
        CHECKS.due("a gap of 2 at 1", two.digit(0, 7), 1);
        two.set(2, 2);
        CHECKS.due("a gap of 2 at 2", two.digit(0, 7), 0);
    }

    private static void flickersNever() {
        CHECKS.sentence("Seeing: one that is not lit in the frame does not flicker");
        TurnDigits x = Checks.withLevels(1, 15);
        x.set(2, 1);
        x.set(0, 7);
        CHECKS.due("its gap", x.digit(0, 6), 7);
        CHECKS.due("not lit in 7", x.digit(0, 7), 0);
        x.set(0, 8);
        CHECKS.due("its gap", x.digit(0, 6), 7);
        CHECKS.due("lit in 8", x.digit(0, 7), 1);
        CHECKS.due("one without a level", x.digit(5, 7), 0);
        CHECKS.sentence("Settings: persistence, 1 to 96, so that with 96 nothing flickers");
        x.set(0, 96);
        x.set(2, 96);
        CHECKS.due("at 96", x.count(4), 0);
        x.set(2, 15);
        CHECKS.due("a gap of 15 at 15", x.digit(0, 7), 0);
        x.set(2, 14);
        CHECKS.due("a gap of 15 at 14", x.digit(0, 7), 1);
    }

    private static void seenAtTheEdge() {
        CHECKS.sentence("Seeing: seen if its light is at least setting 3 times the ambient light");
        TurnDigits x = frame(Checks.withLevels(2, 3), 10);
        CHECKS.due("the light of 0", x.digit(0, 5), 400);
        x.set(3, 20);
        x.ambient(20);
        CHECKS.due("a light of 400 at 400", x.digit(0, 8), 1);
        CHECKS.due("a light of 600 at 400", x.digit(1, 8), 1);
        x.set(0, 24);
        CHECKS.due("a light of 416 at 400", x.digit(0, 8), 1);
        x.set(0, 23);
        CHECKS.due("a light of 391 at 400", x.digit(0, 8), 0);
        TurnDigits one = frame(new TurnDigits(), 96);
        one.set(3, 1);
        one.ambient(20);
        CHECKS.due("a light of 166 at 20", one.digit(0, 8), 1);
        one.set(3, 9);
        CHECKS.due("a light of 166 at 180", one.digit(0, 8), 0);
        one.ambient(1);
        one.set(3, 20);
        CHECKS.due("a light of 166 at 20 times 1", one.digit(0, 8), 1);
    }

    private static void seenWithoutAmbient() {
        CHECKS.sentence("Seeing: and its light is above 0");
        TurnDigits x = Checks.withLevels(1, 15);
        x.ambient(0);
        x.set(0, 7);
        CHECKS.due("a light of 0 at 0", x.digit(0, 8), 0);
        CHECKS.due("a light of 1000 at 0", x.digit(1, 8), 1);
        CHECKS.due("digits that are seen", x.count(5), 1);
        x.set(0, 96);
        x.set(2, 96);
        CHECKS.due("a light of 62 at 0", x.digit(0, 8), 1);
        x.set(3, 20);
        CHECKS.due("contrast is nothing without ambient light", x.digit(0, 8), 1);
        TurnDigits dark = new TurnDigits();
        dark.ambient(0);
        dark.set(1, 1);
        CHECKS.due("dark slots alone", dark.count(5), 0);
        TurnDigits nobody = Checks.withLevels();
        nobody.ambient(0);
        CHECKS.due("no levels", nobody.count(5), 0);
    }

    private static void seenNot() {
        CHECKS.sentence("Seeing: and it does not flicker");
        TurnDigits x = frame(Checks.withLevels(15, 15, 15), 96);
        x.ambient(0);
        x.set(2, 1);
        CHECKS.due("a light of 333, gaps of 2 at 1", x.digit(0, 8), 0);
        x.set(2, 2);
        CHECKS.due("a light of 333, gaps of 2 at 2", x.digit(0, 8), 1);
        x.set(3, 20);
        x.ambient(17);
        CHECKS.due("a light of 333 at 340", x.digit(0, 8), 0);
    }

    private static void clear() {
        CHECKS.sentence("Seeing: clear if it is seen, and can be read as one sign alone");
        TurnDigits x = Checks.withLevels(1, 1);
        for (int sign = 0; sign < 12; sign++) {
            x.show(0, sign);
            x.show(2, sign);
            CHECKS.due("a seen " + sign, x.digit(0, 9), 1);
            CHECKS.due("an unseen " + sign, x.digit(2, 9), 0);
        }
        x.burn(0, 6, true);
        int[] clear = {0, 1, 1, 1, 1, 1, 1, 1, 0, 1, 0, 0};
        for (int sign = 0; sign < 12; sign++) {
            x.show(0, sign);
            CHECKS.due("a seen " + sign + " without the segment 6", x.digit(0, 9), clear[sign]);
            CHECKS.due("it is seen all the same", x.digit(0, 8), 1);
        }
        CHECKS.due("digits that are clear", x.count(6), 1);
        for (int k = 0; k < 7; k++) {
            x.burn(1, k, true);
        }
        CHECKS.due("one with all burnt is seen", x.digit(1, 8), 1);
        CHECKS.due("but not clear", x.digit(1, 9), 0);
        CHECKS.due("digits that are clear then", x.count(6), 0);
    }

    private static void properties() {
        CHECKS.sentence("Promise 14: what: 0 to 11");
        TurnDigits x = Checks.withLevels(0, 0, 0, 0, 0, 15);
        x.show(5, 9);
        x.burn(5, 4, true);
        x.run(3);
        int[] due = {9, 15, 16, 111, 0, 1000, 0, 0, 1, 0, 1 << 8 | 1 << 9, 3};
        for (int what = 0; what < 12; what++) {
            CHECKS.due("digit(5, " + what + ")", x.digit(5, what), due[what]);
        }
        x.level(0, 1);
        x.run(1);
        CHECKS.due("a credit below 0", x.digit(5, 4), -1);
        CHECKS.due("a credit above 0", x.digit(0, 4), 1);
    }

    private static void litSlots() {
        CHECKS.sentence("Promise 14: 11: slots so far in which it was lit");
        TurnDigits x = Checks.withLevels(1, 1);
        x.set(1, 1);
        x.run(500);
        CHECKS.due("dark slots do not count", x.digit(0, 11), 0);
        x.set(1, 0);
        x.run(1);
        CHECKS.due("a lit one does", x.digit(0, 11), 1);
        CHECKS.due("another digit's", x.digit(1, 11), 0);
        x.show(0, 8);
        x.level(0, 0);
        CHECKS.due("it stays without a level", x.digit(0, 11), 1);
    }

    private static void wear() {
        CHECKS.sentence("Promise 15: digit: 0 to 5; segment: 0 to 6");
        for (int d = 0; d < 6; d++) {
            for (int k = 0; k < 7; k++) {
                TurnDigits x = new TurnDigits();
                x.show(d, 8);
                x.run(6);
                x.burn(d, k, false);
                for (int other = 0; other < 7; other++) {
                    CHECKS.due("wear(" + d + ", " + other + ")", x.wear(d, other), other == k ? 0 : 1);
                }
                CHECKS.due("another digit's", x.wear((d + 1) % 6, k), 0);
            }
        }
    }

    private static void slot() {
        CHECKS.sentence("Promise 16: its place in the frame, from 0");
        TurnDigits x = frame(new TurnDigits(), 96);
        CHECKS.due("slot(0)", x.slot(0, false), 0);
        CHECKS.due("slot(95)", x.slot(95, false), 5);
        CHECKS.sentence("Promise 16: NONE if nobody has it (or nobody is lit)");
        x.set(1, 1);
        for (int k = 0; k < 96; k++) {
            CHECKS.due("who has " + k, x.slot(k, false), k % 6);
            CHECKS.due("who is lit in " + k, x.slot(k, true), NONE);
        }
        TurnDigits nobody = frame(Checks.withLevels(), 6);
        for (int k = 0; k < 6; k++) {
            CHECKS.due("who has nobody's " + k, nobody.slot(k, false), NONE);
            CHECKS.due("who is lit in nobody's " + k, nobody.slot(k, true), NONE);
        }
    }

    private static void countZero() {
        CHECKS.sentence("Promise 17: 0: slots that went by, dark ones and nobody's too");
        TurnDigits x = Checks.withLevels();
        x.run(3);
        CHECKS.due("nobody's slots", x.count(0), 3);
        x.level(0, 1);
        x.set(1, 1);
        x.run(1);
        CHECKS.due("a dark slot", x.count(0), 4);
        CHECKS.sentence("Promise 17: 1: the sum of all levels");
        CHECKS.due("of one", x.count(1), 1);
        CHECKS.due("of none", Checks.withLevels().count(1), 0);
        CHECKS.due("of all", Checks.withLevels(15, 15, 15, 15, 15, 15).count(1), 90);
    }

    private static void countDark() {
        CHECKS.sentence("Promise 17: 2: dark slots of the frame (nobody is lit)");
        for (int length : new int[] {6, 96}) {
            TurnDigits x = frame(new TurnDigits(), length);
            CHECKS.due("none of " + length, x.count(2), 0);
            x.set(1, 1);
            CHECKS.due("all of " + length, x.count(2), length);
            TurnDigits alone = frame(Checks.withLevels(1), length);
            alone.set(1, 1);
            CHECKS.due("the slot 0 of " + length, alone.count(2), 1);
            alone.run(1);
            CHECKS.due("none behind it of " + length, alone.count(2), 0);
            CHECKS.due("nobody's", frame(Checks.withLevels(), length).count(2), length);
        }
    }

    private static void countChanges() {
        CHECKS.sentence("Promise 17: 3: slots that another digit, or nobody, has than the one ahead of it");
        for (int length : new int[] {6, 96}) {
            CHECKS.due("all but the first of " + length, frame(new TurnDigits(), length).count(3), length - 1);
            CHECKS.due("none of " + length, frame(Checks.withLevels(0, 1), length).count(3), 0);
            CHECKS.due("nobody's of " + length, frame(Checks.withLevels(), length).count(3), 0);
        }
        TurnDigits x = Checks.withLevels(1);
        x.run(1);
        x.level(0, 0);
        x.level(5, 1);
        CHECKS.due("the first one has none ahead of it in the frame", x.count(3), 0);
        TurnDigits last = frame(Checks.withLevels(1, 5), 6);
        CHECKS.due("1, 1, 0, 1, 1, 1", last.count(3), 2);
        last.run(4);
        CHECKS.due("1, 1, 1, 1, 0, 1", last.count(3), 2);
        last.run(1);
        CHECKS.due("1, 1, 1, 0, 1, 1", last.count(3), 2);
        last.run(3);
        CHECKS.due("0, 1, 1, 1, 1, 1", last.count(3), 1);
        last.run(1);
        CHECKS.due("1, 1, 1, 1, 1, 0", last.count(3), 1);
        last.set(1, 1);
        CHECKS.due("dark slots are changes too", last.count(3), 1);
    }

    private static void countDigits() {
        CHECKS.sentence("Promise 17: 4, 5, 6: digits that flicker, are seen, are clear");
        TurnDigits x = new TurnDigits();
        int[] steady = {0, 6, 6};
        int[] unsteady = {6, 0, 0};
        for (int what = 4; what <= 6; what++) {
            CHECKS.due("steady: count(" + what + ")", x.count(what), steady[what - 4]);
        }
        x.set(2, 4);
        for (int what = 4; what <= 6; what++) {
            CHECKS.due("unsteady: count(" + what + ")", x.count(what), unsteady[what - 4]);
        }
        x.set(2, 12);
        for (int d = 0; d < 6; d++) {
            x.burn(d, 6, true);
            CHECKS.due("clear without the segment 6 of " + d, x.count(6), 5 - d);
            CHECKS.due("seen all the same", x.count(5), 6);
        }
    }

    private static void countOthers() {
        CHECKS.sentence("Promise 17: 7: burnt segments");
        TurnDigits x = new TurnDigits();
        for (int k = 0; k < 42; k++) {
            CHECKS.due("ahead of burning " + k, x.count(7), k);
            x.burn(k / 7, k % 7, true);
        }
        CHECKS.due("all", x.count(7), 42);
        CHECKS.sentence("Promise 17: 9: NONE if nobody had the slot ahead");
        CHECKS.due("of a new object", x.count(9), NONE);
        x.run(6);
        CHECKS.due("behind six slots", x.count(9), 5);
        for (int d = 0; d < 6; d++) {
            x.level(d, 0);
        }
        CHECKS.due("behind other levels, as it was", x.count(9), 5);
        x.run(1);
        CHECKS.due("behind nobody's slot", x.count(9), NONE);
        x.undo();
        CHECKS.due("undone", x.count(9), 5);
        CHECKS.sentence("Promise 17: 10: saved states");
        CHECKS.due("at most", x.count(10), 5);
        x.ambient(0);
        x.ambient(1);
        CHECKS.due("no more than 6", x.count(10), 6);
    }

    private static void setting() {
        CHECKS.sentence("Promise 18: returns its value; setting: 0 to 4");
        TurnDigits x = new TurnDigits();
        int[] values = {6, 1, 96, 20, 99};
        for (int k = 0; k < 5; k++) {
            x.set(k, values[k]);
        }
        for (int k = 0; k < 5; k++) {
            CHECKS.due("setting(" + k + ")", x.setting(k), values[k]);
        }
    }
}
