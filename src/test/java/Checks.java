import java.util.HashSet;
import java.util.Set;
import java.util.function.Consumer;
import java.util.function.Supplier;

/** What every test uses: it tells each answer that is not the one that is due. */
final class Checks {
    /** The segments of the signs, as the document lists them. */
    static final int[] MASKS = {63, 6, 91, 79, 102, 109, 125, 7, 127, 111, 64, 0};

    private final String name;
    private String sentence = "";
    private final Set<String> sentences = new HashSet<>();
    private int wrong = 0;
    private int made = 0;

    Checks(String name) {
        this.name = name;
    }

    /** The document's sentence that the next answers are about; what is wrong is told with it. */
    void sentence(String words) {
        sentence = " [" + words + "]";
        sentences.add(words);
    }

    void due(String what, long got, long want) {
        made++;
        if (got != want) {
            tell(what + " answered " + got + ", due is " + want);
        }
    }

    void dueShare(String what, double got, double want) {
        made++;
        if (Double.doubleToLongBits(got) != Double.doubleToLongBits(want)) {
            tell(what + " answered " + got + ", due is " + want);
        }
    }

    void dueText(String what, String got, String want) {
        made++;
        if (!got.equals(want)) {
            tell(what + " answered " + got + ", due is " + want);
        }
    }

    void refusedIndex(TurnDigits x, String what, Runnable call) {
        refused(x, what, IndexOutOfBoundsException.class, call);
    }

    void refusedArgument(TurnDigits x, String what, Runnable call) {
        refused(x, what, IllegalArgumentException.class, call);
    }

    void refusedState(TurnDigits x, String what, Runnable call) {
        refused(x, what, IllegalStateException.class, call);
    }

    /** Just this exception is due, none of a class below it, and a state that stays as it was. */
    private void refused(TurnDigits x, String what, Class<?> kind, Runnable call) {
        long before = x.digest();
        String thrown = "nothing";
        try {
            call.run();
        } catch (RuntimeException e) {
            thrown = e.getClass().getSimpleName();
        }
        dueText("what " + what + " throws", thrown, kind.getSimpleName());
        due("the digest behind " + what, x.digest(), before);
    }

    /**
     * Just this exception is due, and nothing that has changed: another object that was made by the
     * same calls, but for the refused one, stays alike, also when all that is saved is undone.
     */
    void refusedAtAll(Supplier<TurnDigits> made, String what, Class<?> kind, Consumer<TurnDigits> call) {
        TurnDigits x = made.get();
        String thrown = "nothing";
        try {
            call.accept(x);
        } catch (RuntimeException e) {
            thrown = e.getClass().getSimpleName();
        }
        dueText("what " + what + " throws", thrown, kind.getSimpleName());
        dueAlike("behind " + what, x, made.get());
    }

    /** A call that is a look leaves all as it is, also what is saved. */
    void changesNothing(Supplier<TurnDigits> made, String what, Consumer<TurnDigits> call) {
        TurnDigits x = made.get();
        call.accept(x);
        dueAlike("behind " + what, x, made.get());
    }

    private void dueAlike(String when, TurnDigits x, TurnDigits y) {
        due("saved states " + when, x.count(10), y.count(10));
        due("the digest " + when, x.digest(), y.digest());
        due("firstError() " + when, x.firstError(), y.firstError());
        due("clearBuffer() " + when, x.clearBuffer(), y.clearBuffer());
        for (int left = y.count(10) - 1; left >= 0; left--) {
            due("undo() " + when, x.undo(), left);
            y.undo();
            due("the digest, undone to " + left + ", " + when, x.digest(), y.digest());
        }
    }

    /** All digits have the level 0 but for those that are told here. */
    static TurnDigits withLevels(int... levels) {
        TurnDigits x = new TurnDigits();
        for (int d = 0; d < 6; d++) {
            x.level(d, d < levels.length ? levels[d] : 0);
        }
        return x;
    }

    /** A new object with the burnt segments of the mask on a digit. */
    static TurnDigits burnt(int digit, int mask) {
        TurnDigits x = new TurnDigits();
        for (int k = 0; k < 7; k++) {
            if ((mask >> k & 1) == 1) {
                x.burn(digit, k, true);
            }
        }
        return x;
    }

    static void type(TurnDigits x, String text) {
        for (int k = 0; k < text.length(); k++) {
            x.append(text.charAt(k));
        }
    }

    private void tell(String line) {
        wrong++;
        System.out.println(name + ": " + line + sentence);
    }

    void end() {
        String about = sentences.isEmpty() ? "" : ", " + sentences.size() + " sentences";
        System.out.println(name + ": " + made + " answers" + about + ", " + wrong + " wrong");
        if (wrong != 0) {
            System.exit(1);
        }
    }
}
