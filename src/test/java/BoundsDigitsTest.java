import java.util.ArrayList;
import java.util.List;

/**
 * The boundary cases of the promises 1 to 8 and of the terms that they rest on, each sentence of the
 * document with a test of its own. What is refused stands in RefusalsTest.
 */
public final class BoundsDigitsTest {
    private static final int NONE = TurnDigits.NONE;
    private static final Checks CHECKS = new Checks("BoundsDigitsTest");

    public static void main(String[] args) {
        empty();
        masks();
        burntSegments();
        readAsOwnSign();
        credits();
        slotsAndLevels();
        darkSlots();
        darkSlotZero();
        show();
        level();
        burn();
        ambient();
        set();
        numberPlaces();
        numberSigns();
        numberEdges();
        runEdges();
        runBurns();
        runToTheEnd();
        life();
        longLife();
        wear();
        CHECKS.end();
    }

    private static void empty() {
        CHECKS.sentence("Promise 1: digits that show nothing, at the slot 0, with an empty buffer");
        TurnDigits x = new TurnDigits();
        for (int d = 0; d < 6; d++) {
            CHECKS.due("digit(" + d + ", 3)", x.digit(d, 3), 0);
            CHECKS.due("digit(" + d + ", 11)", x.digit(d, 11), 0);
        }
        CHECKS.due("count(0)", x.count(0), 0);
        CHECKS.due("count(9)", x.count(9), NONE);
        CHECKS.due("count(10)", x.count(10), 0);
        CHECKS.due("firstError()", x.firstError(), 0);
        CHECKS.due("clearBuffer()", x.clearBuffer(), 0);
        CHECKS.sentence("Digits, signs: at first 11; a level, at first 4; Slots: a credit, at first 0");
        for (int d = 0; d < 6; d++) {
            CHECKS.due("digit(" + d + ", 0)", x.digit(d, 0), 11);
            CHECKS.due("digit(" + d + ", 1)", x.digit(d, 1), 4);
            CHECKS.due("digit(" + d + ", 2)", x.digit(d, 2), 0);
            CHECKS.due("digit(" + d + ", 4)", x.digit(d, 4), 0);
        }
        CHECKS.sentence("Seeing: ambient light, at first 2; Settings: at first 24, 0, 12, 10, 0");
        CHECKS.due("count(8)", x.count(8), 2);
        int[] first = {24, 0, 12, 10, 0};
        for (int k = 0; k < 5; k++) {
            CHECKS.due("setting(" + k + ")", x.setting(k), first[k]);
        }
    }

    private static void masks() {
        CHECKS.sentence("Digits, signs: the segments of the signs, as masks");
        for (int d = 0; d < 6; d++) {
            TurnDigits x = new TurnDigits();
            for (int sign = 0; sign < 12; sign++) {
                x.show(d, sign);
                CHECKS.due("the mask of " + sign, x.digit(d, 3), Checks.MASKS[sign]);
            }
        }
    }

    private static void burntSegments() {
        CHECKS.sentence("Digits, signs: a digit shows those segments of its sign that are not burnt");
        for (int mask : new int[] {0, 1, 64, 63, 126, 127}) {
            TurnDigits x = Checks.burnt(5, mask);
            CHECKS.due("burnt segments", x.digit(5, 2), mask);
            for (int sign = 0; sign < 12; sign++) {
                x.show(5, sign);
                CHECKS.due("sign " + sign + " without " + mask, x.digit(5, 3), Checks.MASKS[sign] & ~mask);
            }
            CHECKS.due("another digit's burnt ones", x.digit(4, 2), 0);
        }
    }

    private static void readAsOwnSign() {
        CHECKS.sentence("Digits, signs: so it can always be read as its own sign");
        for (int mask = 0; mask < 128; mask++) {
            TurnDigits x = Checks.burnt(mask % 6, mask);
            for (int sign = 0; sign < 12; sign++) {
                int readable = 0;
                for (int other = 0; other < 12; other++) {
                    readable |= (Checks.MASKS[other] & ~mask) == (Checks.MASKS[sign] & ~mask) ? 1 << other : 0;
                }
                x.show(mask % 6, sign);
                int answer = x.digit(mask % 6, 10);
                CHECKS.due("its own sign " + sign, answer >> sign & 1, 1);
                CHECKS.due("the signs for " + sign + " without " + mask, answer, readable);
            }
        }
    }

    private static void credits() {
        CHECKS.sentence("Slots: of several the lowest one has the slot");
        TurnDigits tie = Checks.withLevels(0, 0, 15, 15, 0, 15);
        int[] owners = {2, 3, 5, 2, 3, 5};
        for (int k = 0; k < owners.length; k++) {
            CHECKS.due("slot " + k, tie.slot(k, false), owners[k]);
        }
        CHECKS.sentence("Slots: each digit's credit becomes more by its level, the owner's less by the sum of all");
        TurnDigits most = Checks.withLevels(15, 15, 15, 15, 15, 15);
        most.run(5);
        for (int d = 0; d < 6; d++) {
            CHECKS.due("credit " + d, most.digit(d, 4), d < 5 ? 5 * 15 - 90 : 75);
        }
        most.run(1);
        for (int d = 0; d < 6; d++) {
            CHECKS.due("credit " + d + " behind all six", most.digit(d, 4), 0);
        }
        TurnDigits steep = Checks.withLevels(1, 15);
        int[] given = {1, 1, 1, 1, 1, 1, 1, 0, 1, 1, 1, 1, 1, 1, 1, 1};
        int[] first = {1, 2, 3, 4, 5, 6, 7, -8, -7, -6, -5, -4, -3, -2, -1, 0};
        for (int k = 0; k < 16; k++) {
            steep.run(1);
            CHECKS.due("the owner of slot " + k, steep.count(9), given[k]);
            CHECKS.due("the credit behind slot " + k, steep.digit(0, 4), first[k]);
            CHECKS.due("the other's behind slot " + k, steep.digit(1, 4), -first[k]);
        }
    }

    private static void slotsAndLevels() {
        CHECKS.sentence("Slots: of the digits with a level above 0");
        TurnDigits one = Checks.withLevels(0, 0, 0, 0, 0, 1);
        one.run(500);
        CHECKS.due("slots of the only one", one.digit(5, 11), 500);
        CHECKS.due("its credit", one.digit(5, 4), 0);
        CHECKS.due("slots of one without a level", one.digit(0, 11), 0);
        CHECKS.due("the credit of one without a level", one.digit(0, 4), 0);
        CHECKS.sentence("Slots: without a level above 0 nobody has the slot");
        TurnDigits nobody = Checks.withLevels();
        CHECKS.due("the slot 0", nobody.slot(0, false), NONE);
        CHECKS.due("run(500)", nobody.run(500), 0);
        CHECKS.due("the slot ahead", nobody.count(9), NONE);
        CHECKS.due("slots that went by all the same", nobody.count(0), 500);
        for (int d = 0; d < 6; d++) {
            CHECKS.due("lit slots", nobody.digit(d, 11), 0);
            CHECKS.due("credit", nobody.digit(d, 4), 0);
        }
    }

    private static void darkSlots() {
        CHECKS.sentence("Slots: dark if another digit had the slot ahead of it (dark or not)");
        TurnDigits x = Checks.withLevels(0, 3, 1);
        x.set(1, 1);
        int[] lit = {NONE, 1, NONE, NONE, 1, 1, NONE, NONE, 1};
        for (int k = 0; k < lit.length; k++) {
            CHECKS.due("slot " + k, x.slot(k, true), lit[k]);
        }
        CHECKS.sentence("Slots: with setting 1 as 0 a digit is lit in each slot that it has");
        x.set(1, 0);
        for (int k = 0; k < lit.length; k++) {
            CHECKS.due("slot " + k, x.slot(k, true), x.slot(k, false));
        }
        CHECKS.sentence("Slots: dark if another digit had the slot ahead, whatever changed since");
        TurnDigits late = Checks.withLevels(0, 0, 0, 9);
        late.run(1);
        late.set(1, 1);
        CHECKS.due("lit behind its own slot of a time without dark ones", late.slot(0, true), 3);
        late.level(3, 2);
        CHECKS.due("lit behind its own slot of another level", late.slot(0, true), 3);
        late.level(0, 5);
        CHECKS.due("dark behind another one's slot", late.slot(0, true), NONE);
        CHECKS.due("though it has the slot", late.slot(0, false), 0);
        CHECKS.sentence("Slots: dark if nobody had the slot ahead of it");
        TurnDigits nobody = Checks.withLevels();
        nobody.run(7);
        nobody.set(1, 1);
        nobody.level(0, 1);
        CHECKS.due("dark behind nobody's slot", nobody.slot(0, true), NONE);
        CHECKS.due("lit behind its own", nobody.slot(1, true), 0);
        nobody.run(1);
        CHECKS.due("not lit in a dark slot", nobody.digit(0, 11), 0);
        CHECKS.due("who had the dark slot", nobody.count(9), 0);
        nobody.run(1);
        CHECKS.due("lit in the next one", nobody.digit(0, 11), 1);
    }

    private static void darkSlotZero() {
        CHECKS.sentence("Slots: dark if it is the slot 0");
        for (int d = 0; d < 6; d++) {
            TurnDigits x = Checks.withLevels();
            x.level(d, 1);
            CHECKS.due("the slot 0 without dark ones", x.slot(0, true), d);
            x.set(1, 1);
            CHECKS.due("the slot 0", x.slot(0, true), NONE);
            CHECKS.due("the slot 1", x.slot(1, true), d);
            x.run(1);
            CHECKS.due("lit in the slot 0", x.digit(d, 11), 0);
            CHECKS.due("the slot 1, as the next one", x.slot(0, true), d);
            x.undo();
            CHECKS.due("the slot 0, undone", x.slot(0, true), NONE);
        }
    }

    private static void show() {
        CHECKS.sentence("Promise 2: returns the previous sign; sign: 0 to 11; digit: 0 to 5");
        for (int d = 0; d < 6; d++) {
            TurnDigits x = new TurnDigits();
            CHECKS.due("show(" + d + ", 0)", x.show(d, 0), 11);
            CHECKS.due("show(" + d + ", 11)", x.show(d, 11), 0);
            CHECKS.due("show(" + d + ", 11) again", x.show(d, 11), 11);
            CHECKS.due("its sign", x.digit(d, 0), 11);
        }
    }

    private static void level() {
        CHECKS.sentence("Promise 3: returns the previous level; level: 0 to 15");
        TurnDigits x = new TurnDigits();
        CHECKS.due("level(0, 0)", x.level(0, 0), 4);
        CHECKS.due("level(0, 15)", x.level(0, 15), 0);
        CHECKS.due("level(5, 15)", x.level(5, 15), 4);
        CHECKS.due("level(5, 0)", x.level(5, 0), 15);
        CHECKS.sentence("Promise 3: all credits become 0, also if it is the same");
        for (int d = 0; d < 6; d++) {
            TurnDigits y = new TurnDigits();
            y.run(3);
            CHECKS.due("the same level", y.level(d, 4), 4);
            for (int other = 0; other < 6; other++) {
                CHECKS.due("the credit " + other, y.digit(other, 4), 0);
            }
            CHECKS.due("then the lowest one has the slot", y.slot(0, false), 0);
            y.undo();
            CHECKS.due("the credit, undone", y.digit(0, 4), -12);
        }
        CHECKS.sentence("Promise 3: Changes a level; nothing else but the credits");
        TurnDigits z = new TurnDigits();
        z.show(2, 8);
        z.run(9);
        z.level(2, 0);
        CHECKS.due("its wear", z.wear(2, 0), 2);
        CHECKS.due("its lit slots", z.digit(2, 11), 2);
        CHECKS.due("its sign", z.digit(2, 0), 8);
        CHECKS.due("the slots that went by", z.count(0), 9);
        CHECKS.due("who had the slot ahead", z.count(9), 2);
    }

    private static void burn() {
        CHECKS.sentence("Promise 4: returns 1 if it was burnt, otherwise 0; segment: 0 to 6");
        for (int d = 0; d < 6; d++) {
            for (int k = 0; k < 7; k++) {
                TurnDigits x = new TurnDigits();
                CHECKS.due("mending one that is not burnt", x.burn(d, k, false), 0);
                CHECKS.due("burning", x.burn(d, k, true), 0);
                CHECKS.due("burning again", x.burn(d, k, true), 1);
                CHECKS.due("the mask", x.digit(d, 2), 1 << k);
                CHECKS.due("in all", x.count(7), 1);
                CHECKS.due("mending", x.burn(d, k, false), 1);
                CHECKS.due("mending again", x.burn(d, k, false), 0);
                CHECKS.due("the mask behind it", x.digit(d, 2), 0);
                CHECKS.due("in all behind it", x.count(7), 0);
            }
        }
        CHECKS.sentence("Promise 4: or mends it (its wear is 0 then)");
        TurnDigits x = Checks.withLevels(0, 0, 0, 0, 0, 1);
        x.show(5, 8);
        x.run(50);
        x.burn(5, 6, true);
        CHECKS.due("wear of a burnt one", x.wear(5, 6), 50);
        x.burn(5, 6, false);
        CHECKS.due("wear of a mended one", x.wear(5, 6), 0);
        CHECKS.due("wear of the one beside it", x.wear(5, 5), 50);
        x.burn(5, 5, false);
        CHECKS.due("wear of one that was not burnt", x.wear(5, 5), 0);
        CHECKS.due("wear of the one below", x.wear(5, 4), 50);
        x.run(1);
        CHECKS.due("wear goes on from 0", x.wear(5, 6), 1);
    }

    private static void ambient() {
        CHECKS.sentence("Promise 5: returns the previous one; light: 0 to 20");
        TurnDigits x = new TurnDigits();
        CHECKS.due("ambient(0)", x.ambient(0), 2);
        CHECKS.due("count(8)", x.count(8), 0);
        CHECKS.due("ambient(20)", x.ambient(20), 0);
        CHECKS.due("count(8)", x.count(8), 20);
        CHECKS.due("ambient(20) again", x.ambient(20), 20);
    }

    private static void set() {
        int[] least = {6, 0, 1, 1, 0};
        int[] most = {96, 1, 96, 20, 99};
        int[] first = {24, 0, 12, 10, 0};
        CHECKS.sentence("Settings: 6 to 96; 1 or 0; 1 to 96; 1 to 20; 0 to 99");
        for (int k = 0; k < 5; k++) {
            TurnDigits x = new TurnDigits();
            CHECKS.due("set(" + k + ", least)", x.set(k, least[k]), first[k]);
            CHECKS.due("setting(" + k + ")", x.setting(k), least[k]);
            CHECKS.due("set(" + k + ", most)", x.set(k, most[k]), least[k]);
            CHECKS.due("setting(" + k + ")", x.setting(k), most[k]);
            for (int other = 0; other < 5; other++) {
                if (other != k) {
                    CHECKS.due("another setting", x.setting(other), first[other]);
                }
            }
        }
        CHECKS.sentence("Promise 6: Changes a setting; the credits and what is counted stay");
        TurnDigits x = new TurnDigits();
        x.run(2);
        for (int k = 0; k < 5; k++) {
            x.set(k, most[k]);
        }
        CHECKS.due("the credit", x.digit(0, 4), -16);
        CHECKS.due("the slots that went by", x.count(0), 2);
    }

    private static TurnDigits full() {
        TurnDigits x = new TurnDigits();
        for (int d = 0; d < 6; d++) {
            x.show(d, 8);
        }
        return x;
    }

    private static List<Integer> signs(TurnDigits x) {
        List<Integer> signs = new ArrayList<>();
        for (int d = 0; d < 6; d++) {
            signs.add(x.digit(d, 0));
        }
        return signs;
    }

    /** On each row of digits; "." is a digit that the call leaves as it was. */
    private static void numberPlaces() {
        for (int first = 0; first < 6; first++) {
            for (int last = first; last < 6; last++) {
                CHECKS.sentence("Promise 7: its last digit on the last one; nothing on the others of them");
                TurnDigits x = full();
                CHECKS.due("one figure", x.number(first, last, 7), 1);
                for (int d = 0; d < 6; d++) {
                    boolean isTold = first <= d && d <= last;
                    CHECKS.due("digit " + d + " of " + first + " to " + last, x.digit(d, 0),
                            !isTold ? 8 : d == last ? 7 : 11);
                }
                CHECKS.sentence("Promise 7: without leading zeros (the number 0 is one 0)");
                CHECKS.due("the number 0", x.number(first, last, 0), 1);
                CHECKS.due("its 0", x.digit(last, 0), 0);
                CHECKS.due("nothing ahead of it", x.digit(first, 0), first == last ? 0 : 11);
            }
        }
    }

    private static void numberIs(int number, int shown, Integer... signs) {
        TurnDigits x = full();
        CHECKS.due("number(0, 5, " + number + ")", x.number(0, 5, number), shown);
        CHECKS.dueText("the signs of " + number, signs(x).toString(), List.of(signs).toString());
        CHECKS.due("saved by it, as one call", x.undo(), 5);
        CHECKS.dueText("undone", signs(x).toString(), "[8, 8, 8, 8, 8, 8]");
    }

    private static void numberSigns() {
        CHECKS.sentence("Promise 7: a minus ahead of a number below 0");
        numberIs(-1, 2, 11, 11, 11, 11, 10, 1);
        numberIs(-9, 2, 11, 11, 11, 11, 10, 9);
        numberIs(-10, 3, 11, 11, 11, 10, 1, 0);
        numberIs(-99999, 6, 10, 9, 9, 9, 9, 9);
        CHECKS.sentence("Promise 7: returns how many of these digits show a sign other than nothing");
        numberIs(0, 1, 11, 11, 11, 11, 11, 0);
        numberIs(9, 1, 11, 11, 11, 11, 11, 9);
        numberIs(10, 2, 11, 11, 11, 11, 1, 0);
        numberIs(99999, 5, 11, 9, 9, 9, 9, 9);
        numberIs(100000, 6, 1, 0, 0, 0, 0, 0);
        numberIs(999999, 6, 9, 9, 9, 9, 9, 9);
        TurnDigits x = burntOut();
        CHECKS.due("the signs of burnt digits count all the same", x.number(0, 5, -305), 4);
        CHECKS.due("digits outside of them do not count", x.number(4, 5, 6), 1);
    }

    private static TurnDigits burntOut() {
        TurnDigits x = new TurnDigits();
        for (int d = 0; d < 6; d++) {
            for (int k = 0; k < 7; k++) {
                x.burn(d, k, true);
            }
        }
        return x;
    }

    /** The greatest and the least number that fit on each row of digits. */
    private static void numberEdges() {
        CHECKS.sentence("Promise 7: IllegalArgumentException if the number does not fit; otherwise it is shown");
        int[] powers = {1, 10, 100, 1000, 10000, 100000, 1000000};
        for (int first = 0; first < 6; first++) {
            for (int last = first; last < 6; last++) {
                int room = last - first + 1;
                TurnDigits x = full();
                CHECKS.due("the greatest", x.number(first, last, powers[room] - 1), room);
                for (int d = first; d <= last; d++) {
                    CHECKS.due("its 9", x.digit(d, 0), 9);
                }
                if (room > 1) {
                    CHECKS.due("the least", x.number(first, last, 1 - powers[room - 1]), room);
                    CHECKS.due("its minus", x.digit(first, 0), 10);
                    CHECKS.due("its last 9", x.digit(last, 0), 9);
                }
            }
        }
    }

    private static void runEdges() {
        CHECKS.sentence("Promise 8: slots: 1 to 500; Undoable, as one call");
        for (int slots : new int[] {1, 2, 499, 500}) {
            TurnDigits x = new TurnDigits();
            CHECKS.due("run(" + slots + ")", x.run(slots), 0);
            CHECKS.due("slots that went by", x.count(0), slots);
            CHECKS.due("who had the last one", x.count(9), (slots - 1) % 6);
            CHECKS.due("saved", x.count(10), 1);
            int lit = 0;
            for (int d = 0; d < 6; d++) {
                CHECKS.due("lit slots of " + d, x.digit(d, 11), slots / 6 + (d < slots % 6 ? 1 : 0));
                lit += x.digit(d, 11);
            }
            CHECKS.due("lit slots in all", lit, slots);
            CHECKS.due("undo()", x.undo(), 0);
            CHECKS.due("slots that went by, undone", x.count(0), 0);
        }
    }

    private static void runBurns() {
        CHECKS.sentence("Promise 8: returns how many segments become burnt in them");
        TurnDigits x = new TurnDigits();
        x.number(0, 5, 888888);
        x.set(4, 1);
        CHECKS.due("run(500), 84 slots for each at most", x.run(500), 0);
        CHECKS.due("run(94), 99 slots for each", x.run(94), 0);
        CHECKS.due("run(1), the slot 100 of the digit 0", x.run(1), 7);
        CHECKS.due("run(2), of the digits 1 and 2", x.run(2), 14);
        CHECKS.due("run(3), of the digits 3, 4 and 5", x.run(3), 21);
        CHECKS.due("all burnt", x.count(7), 42);
        CHECKS.due("run(500) with all burnt", x.run(500), 0);
        for (int back = 0; back < 4; back++) {
            x.undo();
        }
        CHECKS.due("none burnt, undone", x.count(7), 0);
        CHECKS.due("run(6), all in one call", x.run(6), 42);
        x.undo();
        x.burn(3, 2, true);
        CHECKS.due("run(6) with one that was burnt", x.run(6), 41);
        CHECKS.due("with it all are burnt", x.count(7), 42);
    }

    private static void runToTheEnd() {
        CHECKS.sentence("Promise 8: IllegalStateException if more than 99999 slots would have gone by; 99999 may");
        TurnDigits x = new TurnDigits();
        for (int k = 0; k < 199; k++) {
            x.run(500);
        }
        CHECKS.due("run(499)", x.run(499), 0);
        CHECKS.due("slots that went by", x.count(0), 99999);
        CHECKS.due("lit slots of 0", x.digit(0, 11), 16667);
        CHECKS.due("lit slots of 3", x.digit(3, 11), 16666);
        CHECKS.due("the frame goes on there", x.slot(0, false), 3);
        CHECKS.due("with its light", x.digit(3, 5), 166);
        CHECKS.due("undo()", x.undo(), 5);
        CHECKS.due("slots that went by, undone", x.count(0), 99500);
        CHECKS.due("run(1)", x.run(1), 0);
        CHECKS.due("run(498)", x.run(498), 0);
        CHECKS.due("slots that went by again", x.count(0), 99999);
    }

    private static TurnDigits alone(int sign) {
        TurnDigits x = Checks.withLevels(0, 0, 0, 0, 1);
        x.show(4, sign);
        return x;
    }

    private static void life() {
        CHECKS.sentence("Seeing: burnt behind a slot in which its wear grew, if this is at least setting 4 times 100");
        TurnDigits x = alone(1);
        x.set(4, 1);
        CHECKS.due("run(99)", x.run(99), 0);
        CHECKS.due("wear of 99", x.wear(4, 1), 99);
        CHECKS.due("not burnt at 99", x.digit(4, 2), 0);
        CHECKS.due("run(1)", x.run(1), 2);
        CHECKS.due("wear of 100", x.wear(4, 1), 100);
        CHECKS.due("burnt at 100", x.digit(4, 2), 6);
        CHECKS.due("run(1) more", x.run(1), 0);
        CHECKS.due("the wear grows no more", x.wear(4, 1), 100);
        CHECKS.sentence("Seeing: with setting 4 above 0");
        TurnDigits endless = alone(1);
        CHECKS.due("run(500) with 0", endless.run(500), 0);
        CHECKS.due("run(500) with 0 again", endless.run(500), 0);
        CHECKS.due("its wear", endless.wear(4, 1), 1000);
        endless.set(4, 1);
        CHECKS.due("no segment is burnt by set()", endless.digit(4, 2), 0);
        CHECKS.sentence("Seeing: burnt behind a slot in which its wear grew");
        endless.show(4, 10);
        CHECKS.due("run(99) without them", endless.run(99), 0);
        CHECKS.due("worn ones that are not shown are not burnt", endless.digit(4, 2), 0);
        CHECKS.due("run(1), where the minus ends", endless.run(1), 1);
        endless.show(4, 7);
        CHECKS.due("run(1), where the worn ones end", endless.run(1), 2);
        CHECKS.due("their wear", endless.wear(4, 2), 1001);
        CHECKS.due("the one that is not worn", endless.wear(4, 0), 1);
        CHECKS.sentence("Slots: the frame is with all as it is, so that nothing is burnt in it");
        TurnDigits near = alone(1);
        near.set(4, 1);
        near.run(95);
        CHECKS.due("its light in a frame over its end", near.digit(4, 5), 1000);
        CHECKS.due("it is clear", near.digit(4, 9), 1);
        CHECKS.due("its burnt segments", near.digit(4, 2), 0);
    }

    private static void longLife() {
        CHECKS.sentence("Settings: the life of a segment, 0 to 99");
        TurnDigits x = alone(8);
        x.set(4, 99);
        for (int k = 0; k < 19; k++) {
            CHECKS.due("run(500)", x.run(500), 0);
        }
        CHECKS.due("run(399)", x.run(399), 0);
        CHECKS.due("wear of 9899", x.wear(4, 6), 9899);
        CHECKS.due("run(1)", x.run(1), 7);
        CHECKS.due("wear of 9900", x.wear(4, 6), 9900);
        CHECKS.due("burnt at 9900", x.digit(4, 2), 127);
        CHECKS.sentence("Promise 4: a segment that is mended has its whole life again");
        TurnDigits y = alone(10);
        y.set(4, 1);
        CHECKS.due("run(100)", y.run(100), 1);
        CHECKS.due("mend", y.burn(4, 6, false), 1);
        CHECKS.due("run(99) of its new life", y.run(99), 0);
        CHECKS.due("run(1) of it", y.run(1), 1);
        CHECKS.sentence("Promise 4: one that is burnt with its wear has none of its life again");
        y.burn(4, 6, false);
        y.run(60);
        y.burn(4, 6, true);
        y.run(60);
        CHECKS.due("no wear while it is burnt", y.wear(4, 6), 60);
    }

    private static void wear() {
        CHECKS.sentence("Seeing: wear is the number of slots in which its digit was lit and showed it");
        TurnDigits x = Checks.withLevels(1, 1);
        x.show(0, 0);
        x.show(1, 11);
        x.burn(0, 0, true);
        x.run(10);
        CHECKS.due("one that is burnt", x.wear(0, 0), 0);
        CHECKS.due("one that is shown", x.wear(0, 1), 5);
        CHECKS.due("one that is not of the sign", x.wear(0, 6), 0);
        CHECKS.due("nothing wears nothing", x.wear(1, 0), 0);
        CHECKS.due("but it is lit", x.digit(1, 11), 5);
        CHECKS.due("a digit without a slot", x.wear(2, 0), 0);
        x.set(1, 1);
        x.run(10);
        CHECKS.due("all slots are dark", x.wear(0, 1), 5);
        CHECKS.due("lit slots", x.digit(0, 11), 5);
        CHECKS.sentence("Promise 2: the wear stays with another sign");
        x.show(0, 7);
        CHECKS.due("wear of one that is shown no more", x.wear(0, 5), 5);
        CHECKS.due("wear of one that is shown on", x.wear(0, 2), 5);
    }
}
