/** What every test uses: it tells each answer that is not the one that is due. */
final class Checks {
    private final String name;
    private int wrong = 0;
    private int made = 0;

    Checks(String name) {
        this.name = name;
    }

    void due(String what, long got, long want) {
        made++;
        if (got != want) {
            tell(what + " answered " + got + ", due is " + want);
        }
    }

    void dueShare(String what, double got, double want) {
        made++;
        if (Double.doubleToLongBits(got) != Double.doubleToLongBits(want)) {
            tell(what + " answered " + got + ", due is " + want);
        }
    }

    void dueText(String what, String got, String want) {
        made++;
        if (!got.equals(want)) {
            tell(what + " answered " + got + ", due is " + want);
        }
    }

    void refusedIndex(TurnDigits x, String what, Runnable call) {
        refused(x, what, IndexOutOfBoundsException.class, call);
    }

    void refusedArgument(TurnDigits x, String what, Runnable call) {
        refused(x, what, IllegalArgumentException.class, call);
    }

    void refusedState(TurnDigits x, String what, Runnable call) {
        refused(x, what, IllegalStateException.class, call);
    }

    /** Just this exception is due, none of a class below it, and a state that stays as it was. */
    private void refused(TurnDigits x, String what, Class<?> kind, Runnable call) {
        long before = x.digest();
        String thrown = "nothing";
        try {
            call.run();
        } catch (RuntimeException e) {
            thrown = e.getClass().getSimpleName();
        }
        dueText("what " + what + " throws", thrown, kind.getSimpleName());
        due("the digest behind " + what, x.digest(), before);
    }

    /** All digits have the level 0 but for those that are told here. */
    static TurnDigits withLevels(int... levels) {
        TurnDigits x = new TurnDigits();
        for (int d = 0; d < 6; d++) {
            x.level(d, d < levels.length ? levels[d] : 0);
        }
        return x;
    }

    static void type(TurnDigits x, String text) {
        for (int k = 0; k < text.length(); k++) {
            x.append(text.charAt(k));
        }
    }

    private void tell(String line) {
        wrong++;
        System.out.println(name + ": " + line);
    }

    void end() {
        System.out.println(name + ": " + made + " answers, " + wrong + " wrong");
        if (wrong != 0) {
            System.exit(1);
        }
    }
}
