import java.util.Arrays;
import java.util.function.Supplier;

/**
 * The calls that the document refuses: just outside of each range and far from it, which exception of
 * several, and that nothing has changed then. Just inside of each range no call is refused.
 */
public final class RefusalsTest {
    private static final Class<?> INDEX = IndexOutOfBoundsException.class;
    private static final Class<?> ARGUMENT = IllegalArgumentException.class;
    private static final Class<?> STATE = IllegalStateException.class;
    private static final Checks CHECKS = new Checks("RefusalsTest");

    /** What an argument may be, and what the document says if it is not. */
    private record Range(int least, int most, Class<?> refusal, String sentence) {
        boolean holds(int value) {
            return least <= value && value <= most;
        }

        int[] edges() {
            return new int[] {Integer.MIN_VALUE, least - 1, least, most, most + 1, Integer.MAX_VALUE};
        }
    }

    private interface Call {
        int on(TurnDigits x, int[] arguments);
    }

    public static void main(String[] args) {
        changes();
        settings();
        numbers();
        runs();
        buffers();
        texts();
        undoes();
        looks();
        slots();
        wouldBe();
        looksChangeNothing();
        CHECKS.end();
    }

    /** Six states are saved that differ, so that one that is saved more would drop the oldest. */
    private static TurnDigits rich() {
        TurnDigits x = new TurnDigits();
        x.set(4, 1);
        x.set(1, 1);
        x.number(0, 5, -80888);
        x.level(2, 9);
        x.run(500);
        x.burn(3, 6, true);
        x.ambient(7);
        x.level(1, 3);
        x.show(5, 2);
        x.run(77);
        Checks.type(x, "4*1x");
        return x;
    }

    private static Range digits(String promise) {
        return new Range(0, 5, INDEX, promise + ": IndexOutOfBoundsException if there is no such digit");
    }

    private static Range segments(String promise) {
        return new Range(0, 6, INDEX, promise + ": IndexOutOfBoundsException if there is no such segment");
    }

    private static Range arguments(int least, int most, String sentence) {
        return new Range(least, most, ARGUMENT, sentence);
    }

    /** Tries the edges of all ranges with one another. */
    private static void ranges(String name, Supplier<TurnDigits> made, Call call, Range... ranges) {
        with(name, made, call, ranges, new int[ranges.length], 0);
    }

    private static void with(String name, Supplier<TurnDigits> made, Call call, Range[] ranges, int[] values, int k) {
        if (k == ranges.length) {
            answers(name + Arrays.toString(values), made, x -> call.on(x, values), broken(ranges, values));
            return;
        }
        for (int value : ranges[k].edges()) {
            values[k] = value;
            with(name, made, call, ranges, values, k + 1);
        }
    }

    /** The range that tells the exception: in each throws clause the index is named first. */
    private static Range broken(Range[] ranges, int[] values) {
        Range first = null;
        for (int k = 0; k < ranges.length; k++) {
            boolean isNew = first == null || first.refusal() == ARGUMENT && ranges[k].refusal() == INDEX;
            if (!ranges[k].holds(values[k]) && isNew) {
                first = ranges[k];
            }
        }
        return first;
    }

    private static void answers(String what, Supplier<TurnDigits> made, Plain call, Range broken) {
        if (broken != null) {
            CHECKS.sentence(broken.sentence());
            CHECKS.refusedAtAll(made, what, broken.refusal(), call::on);
        } else {
            accepted(made, what, call);
        }
    }

    private interface Plain {
        void on(TurnDigits x);
    }

    private static void accepted(Supplier<TurnDigits> made, String what, Plain call) {
        CHECKS.sentence("an argument at the edge of its range is fine");
        String thrown = "nothing";
        try {
            call.on(made.get());
        } catch (RuntimeException e) {
            thrown = e.getClass().getSimpleName();
        }
        CHECKS.dueText("what " + what + " throws", thrown, "nothing");
    }

    private static void refused(Class<?> kind, Supplier<TurnDigits> made, String what, Plain call) {
        CHECKS.refusedAtAll(made, what, kind, call::on);
    }

    private static void changes() {
        ranges("show", RefusalsTest::rich, (x, a) -> x.show(a[0], a[1]), digits("Promise 2"),
                arguments(0, 11, "Promise 2: IllegalArgumentException if sign is out of range"));
        ranges("level", RefusalsTest::rich, (x, a) -> x.level(a[0], a[1]), digits("Promise 3"),
                arguments(0, 15, "Promise 3: IllegalArgumentException if level is out of range"));
        ranges("burn true", RefusalsTest::rich, (x, a) -> x.burn(a[0], a[1], true),
                digits("Promise 4"), segments("Promise 4"));
        ranges("burn false", RefusalsTest::rich, (x, a) -> x.burn(a[0], a[1], false),
                digits("Promise 4"), segments("Promise 4"));
        ranges("ambient", RefusalsTest::rich, (x, a) -> x.ambient(a[0]),
                arguments(0, 20, "Promise 5: IllegalArgumentException if light is out of range"));
    }

    private static void settings() {
        int[] least = {6, 0, 1, 1, 0};
        int[] most = {96, 1, 96, 20, 99};
        Range which = new Range(0, 4, INDEX, "Promise 6: IndexOutOfBoundsException if there is no such setting");
        for (int k = 0; k < 5; k++) {
            int setting = k;
            Range values = arguments(least[k], most[k], "Promise 6: IllegalArgumentException if value is out of range");
            ranges("set " + k + " ", RefusalsTest::rich, (x, a) -> x.set(setting, a[0]), values);
            for (int none : new int[] {Integer.MIN_VALUE, -1, 5, Integer.MAX_VALUE}) {
                for (int value : values.edges()) {
                    answers("set(" + none + ", " + value + ")", RefusalsTest::rich, x -> x.set(none, value), which);
                }
            }
        }
        ranges("setting", RefusalsTest::rich, (x, a) -> x.setting(a[0]),
                new Range(0, 4, INDEX, "Promise 18: IndexOutOfBoundsException if there is no such setting"));
    }

    private static void number(Class<?> kind, int first, int last, int number) {
        String what = "number(" + first + ", " + last + ", " + number + ")";
        if (kind == null) {
            accepted(RefusalsTest::rich, what, x -> x.number(first, last, number));
        } else {
            refused(kind, RefusalsTest::rich, what, x -> x.number(first, last, number));
        }
    }

    private static void numbers() {
        int[] none = {Integer.MIN_VALUE, -1, 6, Integer.MAX_VALUE};
        int[] any = {Integer.MIN_VALUE, -1, 0, 5, 6, Integer.MAX_VALUE};
        int[] some = {0, 10, 1000000, Integer.MIN_VALUE, Integer.MAX_VALUE};
        CHECKS.sentence("Promise 7: IndexOutOfBoundsException if there are no such digits");
        for (int outside : none) {
            for (int other : any) {
                for (int number : some) {
                    number(INDEX, outside, other, number);
                    number(INDEX, other, outside, number);
                }
            }
        }
        CHECKS.sentence("Promise 7: IllegalArgumentException if last is less than first");
        for (int first = 1; first < 6; first++) {
            for (int last = 0; last < first; last++) {
                number(ARGUMENT, first, last, 0);
                number(ARGUMENT, first, last, 1000000);
                number(ARGUMENT, first, last, Integer.MIN_VALUE);
            }
        }
        numbersThatDoNotFit();
    }

    /** On each row of digits the greatest and the least number that fit, and the next ones. */
    private static void numbersThatDoNotFit() {
        int[] powers = {1, 10, 100, 1000, 10000, 100000, 1000000};
        for (int first = 0; first < 6; first++) {
            for (int last = first; last < 6; last++) {
                int room = last - first + 1;
                CHECKS.sentence("Promise 7: IllegalArgumentException if the number does not fit");
                number(ARGUMENT, first, last, powers[room]);
                number(ARGUMENT, first, last, -powers[room - 1]);
                number(ARGUMENT, first, last, Integer.MAX_VALUE);
                number(ARGUMENT, first, last, Integer.MIN_VALUE);
                number(null, first, last, powers[room] - 1);
                number(null, first, last, 1 - powers[room - 1]);
                number(null, first, last, 0);
            }
        }
    }

    /** So many slots have gone by, and six states are saved. */
    private static TurnDigits gone(int slots) {
        TurnDigits x = new TurnDigits();
        x.show(2, 8);
        for (int left = slots; left > 0; left -= 500) {
            x.run(Math.min(left, 500));
        }
        return x;
    }

    private static void runs() {
        String sentence = "Promise 8: IllegalArgumentException if slots is out of range";
        ranges("run", RefusalsTest::rich, (x, a) -> x.run(a[0]), arguments(1, 500, sentence));
        for (int left : new int[] {0, 1, 499}) {
            Supplier<TurnDigits> made = () -> gone(99999 - left);
            CHECKS.sentence(sentence + ", also if it would be too many");
            for (int slots : new int[] {Integer.MIN_VALUE, 0, 501, Integer.MAX_VALUE}) {
                refused(ARGUMENT, made, "run(" + slots + ") with " + left + " left", x -> x.run(slots));
            }
            CHECKS.sentence("Promise 8: IllegalStateException if more than 99999 slots would have gone by");
            refused(STATE, made, "run of one more than " + left, x -> x.run(left + 1));
            refused(STATE, made, "run(500) with " + left + " left", x -> x.run(500));
            if (left > 0) {
                accepted(made, "run of the last " + left, x -> x.run(left));
            }
        }
        accepted(() -> gone(99499), "run(500) to 99999", x -> x.run(500));
    }

    private static TurnDigits typed(String text) {
        TurnDigits x = rich();
        x.clearBuffer();
        Checks.type(x, text);
        return x;
    }

    private static void buffers() {
        String sentence = "Promise 9: IllegalArgumentException if code is not 33 to 126";
        ranges("append", RefusalsTest::rich, (x, a) -> x.append(a[0]), arguments(33, 126, sentence));
        Supplier<TurnDigits> full = () -> typed("7".repeat(60));
        CHECKS.sentence(sentence + ", also if the buffer has 60 characters");
        for (int code : new int[] {Integer.MIN_VALUE, -1, 0, 32, 127, 256 + 48, Integer.MAX_VALUE}) {
            refused(ARGUMENT, full, "append(" + code + ") to 60", x -> x.append(code));
        }
        CHECKS.sentence("Promise 9: IllegalStateException if the buffer has 60 characters");
        for (int code = 33; code <= 126; code++) {
            int character = code;
            refused(STATE, full, "append(" + code + ") to 60", x -> x.append(character));
        }
        accepted(() -> typed("7".repeat(59)), "append to 59", x -> x.append(48));
    }

    private static void texts() {
        String[] refused = {
            "", "*", "*7", "a", "7*", "7*a", "7*-", "7**", "7*15*", "7*15*3", "7*1*3", "7!", "~", "+5",
            "123456*", "1234567", "123456_", "123456*0-", "123456*155", "123456*16", "7*152*143*134*125*116*",
            "7*152*143*134*125*116*107", "1".repeat(60), "7a", "7*15a", "7*1a", "-*", "_*", "12.5", "a1", "4*1x",
        };
        CHECKS.sentence("Promise 12: IllegalArgumentException if the buffer is not complete digits as a text");
        for (String text : refused) {
            refused(ARGUMENT, () -> typed(text), "read() of " + text, TurnDigits::read);
        }
        String[] read = {"7", "-", "_", "7*0", "7*1", "7*15", "123456", "7*152*143*134*125*116*10"};
        for (String text : read) {
            accepted(() -> typed(text), "read() of " + text, TurnDigits::read);
        }
    }

    private static TurnDigits unsaved() {
        TurnDigits x = rich();
        for (int k = 0; k < 6; k++) {
            x.undo();
        }
        return x;
    }

    private static void undoes() {
        CHECKS.sentence("Promise 13: IllegalStateException if there is none");
        refused(STATE, TurnDigits::new, "undo() of a new object", TurnDigits::undo);
        refused(STATE, RefusalsTest::unsaved, "undo() behind all undone", TurnDigits::undo);
        refused(STATE, () -> {
            TurnDigits x = new TurnDigits();
            Checks.type(x, "7*1");
            x.clearBuffer();
            x.append('7');
            x.firstError();
            return x;
        }, "undo() of calls that are not undoable", TurnDigits::undo);
    }

    private static void looks() {
        ranges("digit", RefusalsTest::rich, (x, a) -> x.digit(a[0], a[1]), digits("Promise 14"),
                arguments(0, 11, "Promise 14: IllegalArgumentException if what is not 0 to 11"));
        ranges("wear", RefusalsTest::rich, (x, a) -> x.wear(a[0], a[1]), digits("Promise 15"), segments("Promise 15"));
        ranges("count", RefusalsTest::rich, (x, a) -> x.count(a[0]),
                arguments(0, 10, "Promise 17: IllegalArgumentException if what is not 0 to 10"));
    }

    private static void slots() {
        for (int frame : new int[] {6, 7, 24, 95, 96}) {
            Supplier<TurnDigits> made = () -> {
                TurnDigits x = rich();
                x.set(0, frame);
                return x;
            };
            Range places = arguments(0, frame - 1,
                    "Promise 16: IllegalArgumentException if slot is not 0 to less than setting 0");
            ranges("slot, lit, of " + frame, made, (x, a) -> x.slot(a[0], true), places);
            ranges("slot of " + frame, made, (x, a) -> x.slot(a[0], false), places);
        }
    }

    private static void wouldBe() {
        ranges("ifLevel", RefusalsTest::rich, (x, a) -> x.ifLevel(a[0], a[1], a[2]), digits("Promise 19"),
                arguments(0, 15, "Promise 19: IllegalArgumentException if level is out of range"),
                arguments(0, 2, "Promise 19: IllegalArgumentException if what is out of range"));
        ranges("leastLevel", RefusalsTest::rich, (x, a) -> x.leastLevel(a[0]), digits("Promise 20"));
        ranges("alikeSigns", RefusalsTest::rich, (x, a) -> x.alikeSigns(a[0]), digits("Promise 21"));
    }

    private static void same(String what, Plain look) {
        CHECKS.changesNothing(RefusalsTest::rich, what, look::on);
    }

    private static void looksChangeNothing() {
        CHECKS.sentence("looks; nothing is changed");
        for (int what = 0; what < 12; what++) {
            int property = what;
            same("digit(" + what + ")", x -> x.digit(2, property));
        }
        for (int what = 0; what < 11; what++) {
            int number = what;
            same("count(" + what + ")", x -> x.count(number));
        }
        same("wear", x -> x.wear(3, 6));
        same("slot, lit", x -> x.slot(23, true));
        same("slot", x -> x.slot(0, false));
        same("setting", x -> x.setting(0));
        CHECKS.sentence("what would be; nothing is changed");
        for (int what = 0; what < 3; what++) {
            int number = what;
            same("ifLevel(" + what + ")", x -> x.ifLevel(2, 15, number));
        }
        same("leastLevel", x -> x.leastLevel(2));
        same("alikeSigns", x -> x.alikeSigns(3));
        same("numberShown", TurnDigits::numberShown);
        same("evenness", TurnDigits::evenness);
        same("digest", TurnDigits::digest);
        CHECKS.sentence("Promise 11: firstError() finds an error and changes nothing");
        same("firstError", TurnDigits::firstError);
    }
}
