import java.util.ArrayDeque;
import java.util.Deque;
import java.util.function.Consumer;

/**
 * The boundary cases of the promises 9 to 13, of the input text and of undo, each sentence of the
 * document with a test of its own. What is refused stands in RefusalsTest.
 */
public final class BoundsTextsTest {
    private static final String FIGURES = "0123456789";
    private static final String SIGNS = "0123456789-_";
    private static final Checks CHECKS = new Checks("BoundsTextsTest");

    public static void main(String[] args) {
        append();
        fullBuffer();
        clearBuffer();
        nextCharacters();
        nextBehindSixParts();
        firstErrorAlone();
        partsOfAText();
        signsOfAText();
        levelsOfAText();
        levelsThatGoOn();
        readChanges();
        readCredits();
        readUndone();
        saves();
        savesNothing();
        sixSaved();
        ringOfSaved();
        undoRestores();
        undoKeepsBuffer();
        CHECKS.end();
    }

    private static TurnDigits typed(String text) {
        TurnDigits x = new TurnDigits();
        Checks.type(x, text);
        return x;
    }

    private static void append() {
        CHECKS.sentence("Promise 9: the character code, 33 to 126; returns the new length of the buffer");
        TurnDigits x = new TurnDigits();
        CHECKS.due("append(33)", x.append(33), 1);
        CHECKS.due("append(126)", x.append(126), 2);
        CHECKS.sentence("Promise 9: appends any of these characters, also one that is a syntax error");
        for (int code = 33; code <= 126; code++) {
            TurnDigits y = new TurnDigits();
            long empty = y.digest();
            CHECKS.due("append(" + code + ")", y.append(code), 1);
            CHECKS.due("the digest changes with the buffer", y.digest() == empty ? 1 : 0, 0);
            CHECKS.due("the buffer's length", y.clearBuffer(), 1);
        }
    }

    private static void fullBuffer() {
        CHECKS.sentence("Input text: the buffer has at most 60 characters");
        TurnDigits x = new TurnDigits();
        for (int k = 1; k <= 60; k++) {
            CHECKS.due("append, the character " + k, x.append('0' + k % 10), k);
        }
        CHECKS.refusedState(x, "append to 60", () -> x.append('5'));
        CHECKS.due("the first error of 60", x.firstError(), 6);
        CHECKS.due("clearBuffer() of 60", x.clearBuffer(), 60);
        CHECKS.due("append then", x.append('5'), 1);
        CHECKS.due("read() then", x.read(), 1);
        for (int k = 1; k <= 60; k++) {
            CHECKS.due("append behind read(), the character " + k, x.append('a'), k);
        }
        CHECKS.refusedState(x, "append to 60 again", () -> x.append('5'));
    }

    private static void clearBuffer() {
        CHECKS.sentence("Promise 10: returns the length that it had");
        for (int length : new int[] {0, 1, 59, 60}) {
            TurnDigits x = typed("4".repeat(length));
            CHECKS.due("clearBuffer() of " + length, x.clearBuffer(), length);
            CHECKS.due("clearBuffer() of none", x.clearBuffer(), 0);
            CHECKS.due("firstError() of none", x.firstError(), 0);
        }
        CHECKS.sentence("Promise 10: clears the buffer, and changes nothing else");
        TurnDigits x = typed("12");
        CHECKS.due("the digest behind it", clearedDigest(x), new TurnDigits().digest());
    }

    private static long clearedDigest(TurnDigits x) {
        x.clearBuffer();
        return x.digest();
    }

    /** Behind a text without an error just these characters are none; all are tried. */
    private static void goesOnWith(String text, String next) {
        for (char c = 33; c <= 126; c++) {
            boolean isFine = next.indexOf(c) >= 0;
            TurnDigits x = typed(text + c);
            CHECKS.due("firstError() of " + text + c, x.firstError(), text.length() + (isFine ? 1 : 0));
            CHECKS.due("firstError() of " + text + c + ", again", x.firstError(), text.length() + (isFine ? 1 : 0));
        }
    }

    private static void nextCharacters() {
        CHECKS.sentence("Input text: a text begins with a sign");
        goesOnWith("", SIGNS);
        CHECKS.sentence("Input text: behind a sign perhaps \"*\", or the next sign");
        for (int k = 0; k < SIGNS.length(); k++) {
            goesOnWith(SIGNS.substring(k, k + 1), SIGNS + "*");
        }
        goesOnWith("77777", SIGNS + "*");
        CHECKS.sentence("Input text: behind \"*\" a level");
        goesOnWith("7*", FIGURES);
        goesOnWith("_*", FIGURES);
        goesOnWith("7*157*157*157*157*", FIGURES);
        CHECKS.sentence("Input text: behind a level the next sign; behind \"*1\" the level goes on, or the next sign");
        for (int level = 0; level <= 15; level++) {
            goesOnWith("7*" + level, SIGNS);
        }
        goesOnWith("77777*1", SIGNS);
        goesOnWith("7*157*157*157*157*15", SIGNS);
    }

    private static void nextBehindSixParts() {
        CHECKS.sentence("Input text: 1 to 6 parts");
        goesOnWith("777777", "*");
        goesOnWith("-_-_-_", "*");
        CHECKS.sentence("Input text: behind six parts a level alone may go on");
        goesOnWith("777777*", FIGURES);
        goesOnWith("777777*1", "012345");
        for (int level = 0; level <= 15; level++) {
            goesOnWith("777777*" + level, level == 1 ? "012345" : "");
        }
        goesOnWith("7*157*157*157*157*157*15", "");
        goesOnWith("7*157*157*157*157*157*1", "012345");
    }

    private static void firstErrorAlone() {
        CHECKS.sentence("Promise 11: the index of the first character that is a syntax error");
        String[] texts = {"a", "aa", "a7", "*7", "7aa", "7*a7", "7*15*7", "7777777a", "777777*156", "7*1*1*1"};
        int[] errors = {0, 0, 0, 0, 1, 2, 4, 6, 9, 3};
        for (int k = 0; k < texts.length; k++) {
            CHECKS.due("firstError() of " + texts[k], typed(texts[k]).firstError(), errors[k]);
        }
        for (int at = 0; at < 6; at++) {
            String text = "7".repeat(at) + "!".repeat(60 - at);
            CHECKS.due("firstError() of 60 from " + at, typed(text).firstError(), at);
        }
        CHECKS.sentence("Promise 11: the length of the buffer if there is none");
        String[] fine = {"", "7", "7*", "7*1", "7*15", "777777", "777777*", "7*157*157*157*157*157*15"};
        for (String text : fine) {
            CHECKS.due("firstError() of " + text, typed(text).firstError(), text.length());
        }
    }

    private static void partsOfAText() {
        CHECKS.sentence("Input text: 1 to 6 parts, for the digits 0, 1 and so on; Promise 12: how many are told");
        for (int parts = 1; parts <= 6; parts++) {
            TurnDigits x = typed("345678".substring(0, parts));
            CHECKS.due("read() of " + parts, x.read(), parts);
            for (int d = 0; d < 6; d++) {
                CHECKS.due("the sign " + d + " of " + parts, x.digit(d, 0), d < parts ? 3 + d : 11);
                CHECKS.due("the level " + d + " of " + parts, x.digit(d, 1), 4);
            }
            CHECKS.due("the buffer behind it", x.clearBuffer(), 0);
            CHECKS.due("saved", x.count(10), 1);
        }
        CHECKS.sentence("Input text: the longest text has six parts with levels of two figures");
        TurnDigits x = typed("0*101*112*123*134*145*15");
        CHECKS.due("read()", x.read(), 6);
        for (int d = 0; d < 6; d++) {
            CHECKS.due("its sign " + d, x.digit(d, 0), d);
            CHECKS.due("its level " + d, x.digit(d, 1), 10 + d);
        }
    }

    private static void signsOfAText() {
        CHECKS.sentence("Input text: each a sign: \"0\" to \"9\", \"-\", or \"_\" (nothing)");
        for (int sign = 0; sign < 12; sign++) {
            TurnDigits x = new TurnDigits();
            x.show(0, (sign + 1) % 12);
            x.append(SIGNS.charAt(sign));
            CHECKS.due("read() of the sign " + sign, x.read(), 1);
            CHECKS.due("the sign", x.digit(0, 0), sign);
        }
        for (char c = 33; c <= 126; c++) {
            if (SIGNS.indexOf(c) < 0) {
                TurnDigits x = typed(String.valueOf(c));
                CHECKS.refusedArgument(x, "read() of " + c, x::read);
            }
        }
    }

    private static void levelsOfAText() {
        CHECKS.sentence("Input text: a level, 0 to 15, without a leading zero");
        for (int level = 0; level <= 15; level++) {
            TurnDigits x = typed("8*" + level + "_");
            CHECKS.due("read() with the level " + level, x.read(), 2);
            CHECKS.due("the sign", x.digit(0, 0), 8);
            CHECKS.due("the level", x.digit(0, 1), level);
            CHECKS.due("the next sign", x.digit(1, 0), 11);
            CHECKS.due("the next level", x.digit(1, 1), 4);
        }
        for (int figure = 0; figure <= 9; figure++) {
            TurnDigits x = typed("8*0" + figure);
            CHECKS.due("read() of *0" + figure, x.read(), 2);
            CHECKS.due("its level", x.digit(0, 1), 0);
            CHECKS.due("the next sign", x.digit(1, 0), figure);
        }
    }

    private static void levelsThatGoOn() {
        CHECKS.sentence("Input text: behind \"*1\" the signs 0 to 5 belong to the level, behind other levels none");
        for (int level = 0; level <= 15; level++) {
            for (int figure = 0; figure <= 9; figure++) {
                boolean isLevel = level == 1 && figure <= 5;
                TurnDigits x = typed("8*" + level + figure);
                CHECKS.due("read() of *" + level + figure, x.read(), isLevel ? 1 : 2);
                CHECKS.due("the level of *" + level + figure, x.digit(0, 1), isLevel ? 10 + figure : level);
                CHECKS.due("the next sign of *" + level + figure, x.digit(1, 0), isLevel ? 11 : figure);
            }
        }
        TurnDigits x = typed("1*1-*1_*16*1");
        CHECKS.due("read() of *1 ahead of other signs", x.read(), 4);
        int[] signs = {1, 10, 11, 6, 11, 11};
        for (int d = 0; d < 6; d++) {
            CHECKS.due("the sign " + d, x.digit(d, 0), signs[d]);
            CHECKS.due("the level " + d, x.digit(d, 1), d < 4 ? 1 : 4);
        }
    }

    private static void readChanges() {
        CHECKS.sentence("Promise 12: changes the signs, and the levels that are told, and clears the buffer");
        TurnDigits x = new TurnDigits();
        x.number(0, 5, 987654);
        x.level(0, 1);
        x.level(3, 9);
        Checks.type(x, "0_*2-");
        CHECKS.due("read()", x.read(), 3);
        int[] signs = {0, 11, 10, 6, 5, 4};
        int[] levels = {1, 2, 4, 9, 4, 4};
        for (int d = 0; d < 6; d++) {
            CHECKS.due("the sign " + d, x.digit(d, 0), signs[d]);
            CHECKS.due("the level " + d, x.digit(d, 1), levels[d]);
        }
        CHECKS.refusedArgument(x, "read() of the cleared buffer", x::read);
        Checks.type(x, "5");
        CHECKS.due("read() again", x.read(), 1);
        CHECKS.due("its sign", x.digit(0, 0), 5);
        CHECKS.due("a level that is not told again", x.digit(1, 1), 2);
        CHECKS.sentence("Promise 12: all levels may be told as 0");
        Checks.type(x, "0*00*00*00*00*00*0");
        CHECKS.due("read()", x.read(), 6);
        CHECKS.due("the sum of levels", x.count(1), 0);
        CHECKS.due("nobody has the slot", x.slot(0, false), TurnDigits.NONE);
    }

    private static void readCredits() {
        CHECKS.sentence("Promise 12: all credits become 0 if a level is told");
        String[] texts = {"7", "777777", "7*4", "77777*4", "777777*4", "77777*47", "7*0", "-", "7*15"};
        for (String text : texts) {
            boolean isTold = text.indexOf('*') >= 0;
            TurnDigits x = new TurnDigits();
            x.run(2);
            Checks.type(x, text);
            x.read();
            int[] credits = {-16, -16, 8, 8, 8, 8};
            for (int d = 0; d < 6; d++) {
                CHECKS.due("the credit " + d + " behind " + text, x.digit(d, 4), isTold ? 0 : credits[d]);
            }
            CHECKS.due("who had the slot ahead", x.count(9), 1);
        }
    }

    private static void readUndone() {
        CHECKS.sentence("Promise 12: undoable, as one call");
        TurnDigits x = new TurnDigits();
        x.number(0, 5, 123456);
        x.run(2);
        long before = x.digest();
        Checks.type(x, "6*15_*05*4-*3_*2-*1");
        CHECKS.due("read()", x.read(), 6);
        CHECKS.due("saved", x.count(10), 3);
        CHECKS.due("undo()", x.undo(), 2);
        CHECKS.due("the digest, undone", x.digest(), before);
        CHECKS.due("the buffer stays clear", x.clearBuffer(), 0);
    }

    private static void savesOne(String what, Consumer<TurnDigits> call) {
        TurnDigits x = new TurnDigits();
        long before = x.digest();
        call.accept(x);
        x.clearBuffer();
        CHECKS.due("saved by " + what, x.count(10), 1);
        CHECKS.due("undo() of " + what, x.undo(), 0);
        CHECKS.due("the digest behind it", x.digest(), before);
    }

    private static void saves() {
        CHECKS.sentence("Undo: each method that is marked undoable saves the state, also if it changes nothing");
        savesOne("show", x -> x.show(0, 8));
        savesOne("show of the same", x -> x.show(0, 11));
        savesOne("level", x -> x.level(5, 0));
        savesOne("level of the same", x -> x.level(5, 4));
        savesOne("burn", x -> x.burn(5, 6, true));
        savesOne("mending one that is not burnt", x -> x.burn(5, 6, false));
        savesOne("ambient", x -> x.ambient(20));
        savesOne("ambient of the same", x -> x.ambient(2));
        int[] first = {24, 0, 12, 10, 0};
        int[] other = {96, 1, 96, 20, 99};
        for (int k = 0; k < 5; k++) {
            int setting = k;
            savesOne("set(" + k + ")", x -> x.set(setting, other[setting]));
            savesOne("set(" + k + ") of the same", x -> x.set(setting, first[setting]));
        }
        savesOne("number", x -> x.number(0, 5, -99999));
        savesOne("run(1)", x -> x.run(1));
        savesOne("run(500)", x -> x.run(500));
        savesOne("read", x -> {
            Checks.type(x, "8*15");
            x.read();
        });
        savesOne("read of the same", x -> {
            Checks.type(x, "_*4");
            x.read();
        });
    }

    private static void savesNothing() {
        CHECKS.sentence("Undo: a method that is not marked undoable saves nothing");
        TurnDigits x = new TurnDigits();
        x.show(0, 8);
        x.show(0, 7);
        x.append('7');
        x.firstError();
        x.clearBuffer();
        x.digit(0, 5);
        x.wear(0, 0);
        x.slot(0, true);
        x.count(2);
        x.setting(0);
        x.ifLevel(0, 15, 0);
        x.leastLevel(0);
        x.alikeSigns(0);
        x.numberShown();
        x.evenness();
        x.digest();
        CHECKS.due("saved", x.count(10), 2);
        CHECKS.due("undo()", x.undo(), 1);
        CHECKS.due("undo() is not saved itself", x.count(10), 1);
        CHECKS.due("the sign", x.digit(0, 0), 8);
        CHECKS.due("undo() again", x.undo(), 0);
        CHECKS.due("the first sign", x.digit(0, 0), 11);
    }

    private static void sixSaved() {
        CHECKS.sentence("Undo: at most 6 states are saved; the oldest one is dropped first");
        for (int calls = 1; calls <= 15; calls++) {
            TurnDigits x = new TurnDigits();
            for (int k = 1; k <= calls; k++) {
                x.ambient(2 + k);
                CHECKS.due("saved by " + k, x.count(10), Math.min(k, 6));
            }
            int saved = Math.min(calls, 6);
            for (int back = 1; back <= saved; back++) {
                CHECKS.due("undo() of " + back + " of " + calls, x.undo(), saved - back);
                CHECKS.due("what is restored", x.count(8), 2 + calls - back);
            }
            CHECKS.refusedState(x, "undo() of one more than " + saved, x::undo);
        }
    }

    /** Saved and undone by turns, so that the saved ones stand at all places. */
    private static void ringOfSaved() {
        CHECKS.sentence("Promise 13: restores the latest saved state, and drops it");
        for (int more = 1; more <= 9; more++) {
            for (int back = 1; back <= 6; back++) {
                TurnDigits x = new TurnDigits();
                Deque<Integer> saved = new ArrayDeque<>();
                int light = 2;
                for (int k = 0; k < 60; k++) {
                    boolean isUndo = k % (more + back) >= more && !saved.isEmpty();
                    if (isUndo) {
                        light = saved.removeLast();
                        CHECKS.due("undo(), call " + k, x.undo(), saved.size());
                    } else {
                        saved.addLast(light);
                        if (saved.size() > 6) {
                            saved.removeFirst();
                        }
                        light = (light * 7 + k) % 21;
                        x.ambient(light);
                    }
                    CHECKS.due("the light behind call " + k, x.count(8), light);
                    CHECKS.due("saved behind call " + k, x.count(10), saved.size());
                }
            }
        }
    }

    private static void undoRestores() {
        CHECKS.sentence("Undo: all, also what is counted so far");
        TurnDigits x = new TurnDigits();
        x.number(0, 5, 888888);
        x.set(4, 1);
        x.level(0, 9);
        x.run(97);
        int time = x.count(0);
        int ahead = x.count(9);
        int credit = x.digit(0, 4);
        int lit = x.digit(0, 11);
        int wear = x.wear(0, 6);
        x.run(500);
        CHECKS.due("undo()", x.undo(), 4);
        CHECKS.due("slots that went by", x.count(0), time);
        CHECKS.due("who had the slot ahead", x.count(9), ahead);
        CHECKS.due("the credit", x.digit(0, 4), credit);
        CHECKS.due("the lit slots", x.digit(0, 11), lit);
        CHECKS.due("the wear", x.wear(0, 6), wear);
        CHECKS.due("the burnt segments", x.count(7), 0);
        x.burn(0, 6, false);
        x.undo();
        CHECKS.due("the wear of a mended one", x.wear(0, 6), wear);
        x.level(1, 4);
        x.undo();
        CHECKS.due("the credit behind undo() of level()", x.digit(0, 4), credit);
        CHECKS.sentence("Undo: a state that is saved stays as it was, whatever comes later");
        TurnDigits y = new TurnDigits();
        long first = y.digest();
        y.number(0, 5, 123456);
        y.level(3, 0);
        y.burn(2, 2, true);
        y.set(0, 96);
        y.run(77);
        y.ambient(20);
        for (int left = 5; left >= 0; left--) {
            CHECKS.due("undo()", y.undo(), left);
        }
        CHECKS.due("the digest of a new object", y.digest(), first);
    }

    private static void undoKeepsBuffer() {
        CHECKS.sentence("Undo: all but the buffer and the saved states");
        TurnDigits x = new TurnDigits();
        x.append('7');
        x.show(0, 3);
        x.append('*');
        CHECKS.due("undo()", x.undo(), 0);
        CHECKS.due("the buffer that was typed since", x.firstError(), 2);
        x.append('9');
        x.show(1, 4);
        x.clearBuffer();
        CHECKS.due("undo() again", x.undo(), 0);
        CHECKS.due("the buffer that was cleared since", x.clearBuffer(), 0);
    }
}
