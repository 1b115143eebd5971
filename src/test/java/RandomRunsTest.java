import java.util.Random;
import java.util.function.Supplier;

/** Many runs of calls, the same ones each time, on the program and on the model beside it. */
public final class RandomRunsTest {
    private static final int RUNS = 230;
    private static final int CALLS = 130;
    private static final int WHOLE_RUNS = 12;
    private static final int MOST_CALLS = 512;
    /** A text of seven characters, with firstError(), read() and clearBuffer(), and a digest(). */
    private static final int LONGEST_STEP = 11;
    private static final Checks CHECKS = new Checks("RandomRunsTest");

    private final Random random;
    private final TurnDigits x = new TurnDigits();
    private final Model model = new Model();
    private final String name;
    private int made = 0;

    private RandomRunsTest(int run) {
        random = new Random(run);
        name = "run " + run + ", call ";
    }

    public static void main(String[] args) {
        for (int run = 0; run < RUNS; run++) {
            new RandomRunsTest(run).calls(CALLS);
        }
        for (int run = RUNS; run < RUNS + WHOLE_RUNS; run++) {
            new RandomRunsTest(run).calls(MOST_CALLS);
        }
        CHECKS.end();
    }

    /** An object may be used for no more calls than these; digest() is the last one. */
    private void calls(int most) {
        for (int k = 0; made < most - LONGEST_STEP; k++) {
            call(name + made + " ");
            if (k % 8 == 7) {
                same(name + made + " digest()", x::digest, model::digest);
            }
        }
        while (made < most - 1) {
            look(name + made + " ", made % 2 == 0 ? 16 : 19);
        }
        same(name + made + " digest()", x::digest, model::digest);
    }

    /** A number of the range mostly, sometimes one just outside of it, seldom any. */
    private int about(int least, int most) {
        int chance = random.nextInt(40);
        if (chance == 0) {
            return random.nextBoolean() ? least - 1 : most + 1;
        }
        if (chance == 1) {
            return random.nextInt();
        }
        return chance < 8 ? (random.nextBoolean() ? least : most) : least + random.nextInt(most - least + 1);
    }

    private static String answer(Supplier<Object> call) {
        try {
            return call.get().toString();
        } catch (RuntimeException e) {
            return "throws." + e.getClass().getSimpleName();
        }
    }

    private void same(String what, Supplier<Object> got, Supplier<Object> want) {
        made++;
        CHECKS.dueText(what, answer(got), answer(want));
    }

    private void call(String at) {
        int chance = random.nextInt(24);
        if (chance < 10) {
            change(at, chance);
        } else if (chance < 14) {
            text(at);
        } else if (chance < 16) {
            same(at + "undo()", x::undo, model::undo);
        } else {
            look(at, chance);
        }
    }

    private void change(String at, int chance) {
        int d = about(0, 5);
        int a = about(0, 5);
        int b = random.nextBoolean() ? 5 : about(0, 5);
        int sign = about(0, 11);
        int level = random.nextInt(4) == 0 ? 0 : about(0, 15);
        int segment = about(0, 6);
        boolean flag = random.nextBoolean();
        int light = about(0, 20);
        int setting = about(0, 4);
        int value = value(setting);
        int number = number();
        int slots = random.nextInt(3) == 0 ? about(1, 500) : about(1, 30);
        switch (chance) {
            case 0 -> same(at + "show " + d + " " + sign, () -> x.show(d, sign), () -> model.show(d, sign));
            case 1, 2 -> same(at + "level " + d + " " + level, () -> x.level(d, level), () -> model.level(d, level));
            case 3 -> same(at + "burn " + d + " " + segment + " " + flag,
                    () -> x.burn(d, segment, flag), () -> model.burn(d, segment, flag));
            case 4 -> same(at + "ambient " + light, () -> x.ambient(light), () -> model.ambient(light));
            case 5, 6 -> same(at + "set " + setting + " " + value,
                    () -> x.set(setting, value), () -> model.set(setting, value));
            case 7 -> same(at + "number " + a + " " + b + " " + number,
                    () -> x.number(a, b, number), () -> model.number(a, b, number));
            default -> same(at + "run " + slots, () -> x.run(slots), () -> model.run(slots));
        }
    }

    private int value(int setting) {
        return switch (setting) {
            case 0 -> about(6, 96);
            case 1 -> about(0, 1);
            case 2 -> about(1, random.nextBoolean() ? 12 : 96);
            case 3 -> about(1, 20);
            default -> about(0, random.nextInt(4) == 0 ? 99 : 2);
        };
    }

    private int number() {
        int most = 1;
        for (int k = random.nextInt(8); k > 0; k--) {
            most *= 10;
        }
        return random.nextInt(20) == 0 ? random.nextInt() : random.nextInt(2 * most) - most / 4;
    }

    private void text(String at) {
        if (random.nextInt(3) > 0) {
            String signs = random.nextInt(12) == 0 ? "0159*-_a!~ " : "0123456789-_115**";
            for (int k = random.nextInt(7); k >= 0; k--) {
                int code = random.nextInt(60) == 0 ? about(33, 126) : signs.charAt(random.nextInt(signs.length()));
                same(at + "append " + code, () -> x.append(code), () -> model.append(code));
            }
        }
        same(at + "firstError()", x::firstError, model::firstError);
        if (random.nextInt(3) > 0) {
            same(at + "read()", x::read, model::read);
        }
        if (random.nextInt(4) == 0) {
            same(at + "clearBuffer()", x::clearBuffer, model::clearBuffer);
        }
    }

    private void look(String at, int chance) {
        int d = about(0, 5);
        int k = about(0, 6);
        int what = about(0, 11);
        int slot = about(0, 95);
        int setting = about(0, 4);
        int level = about(0, 15);
        int then = about(0, 2);
        boolean flag = random.nextBoolean();
        switch (chance) {
            case 16 -> same(at + "digit " + d + " " + what, () -> x.digit(d, what), () -> model.digit(d, what));
            case 17 -> same(at + "wear " + d + " " + k, () -> x.wear(d, k), () -> model.wear(d, k));
            case 18 -> same(at + "slot " + slot + " " + flag, () -> x.slot(slot, flag), () -> model.slot(slot, flag));
            case 19 -> same(at + "count " + what, () -> x.count(what), () -> model.count(what));
            case 20 -> same(at + "setting " + setting, () -> x.setting(setting), () -> model.setting(setting));
            case 21 -> same(at + "ifLevel " + d + " " + level + " " + then,
                    () -> x.ifLevel(d, level, then), () -> model.ifLevel(d, level, then));
            case 22 -> {
                same(at + "leastLevel " + d, () -> x.leastLevel(d), () -> model.leastLevel(d));
                same(at + "alikeSigns " + d, () -> x.alikeSigns(d), () -> model.alikeSigns(d));
            }
            default -> {
                same(at + "numberShown()", x::numberShown, model::numberShown);
                same(at + "evenness()", x::evenness, model::evenness);
            }
        }
    }
}
