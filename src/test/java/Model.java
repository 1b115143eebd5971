import java.util.ArrayDeque;
import java.util.ArrayList;
import java.util.Arrays;
import java.util.Deque;
import java.util.List;
import java.util.regex.Matcher;
import java.util.regex.Pattern;

/**
 * The document once more, as slow and plain as can be: each answer is made anew from its words, and
 * not from the program's ways. Wrong inputs throw as the document says.
 */
final class Model {
    private static final int[] MASKS = {63, 6, 91, 79, 102, 109, 125, 7, 127, 111, 64, 0};
    private static final int[][] RANGES = {{6, 96}, {0, 1}, {1, 96}, {1, 20}, {0, 99}};
    private static final String PART = "[0-9_-](?:\\*(1[0-5]|[0-9]))?";
    private static final String SIGNS = "0123456789-_";

    /** What undo restores; a copy is made for each saved state. */
    private static final class Now {
        int[] sign = {11, 11, 11, 11, 11, 11};
        int[] level = {4, 4, 4, 4, 4, 4};
        int[] credit = new int[6];
        int[] lit = new int[6];
        boolean[][] burnt = new boolean[6][7];
        int[][] wear = new int[6][7];
        int[] setting = {24, 0, 12, 10, 0};
        int ambient = 2;
        int gone = 0;
        int ahead = -1;

        Now copy() {
            Now n = new Now();
            n.sign = sign.clone();
            n.level = level.clone();
            n.credit = credit.clone();
            n.lit = lit.clone();
            for (int d = 0; d < 6; d++) {
                n.burnt[d] = burnt[d].clone();
                n.wear[d] = wear[d].clone();
            }
            n.setting = setting.clone();
            n.ambient = ambient;
            n.gone = gone;
            n.ahead = ahead;
            return n;
        }

        /** Passes one slot: {who has it, who is lit}. */
        int[] pass() {
            int best = -1;
            for (int d = 5; d >= 0; d--) {
                credit[d] += level[d];
                if (level[d] > 0 && (best < 0 || credit[d] >= credit[best])) {
                    best = d;
                }
            }
            if (best >= 0) {
                credit[best] -= Arrays.stream(level).sum();
            }
            boolean dark = setting[1] == 1 && (gone == 0 || ahead == -1 || ahead != best);
            ahead = best;
            gone++;
            return new int[] {best, dark ? -1 : best};
        }

        boolean shows(int d, int s, int k) {
            return (MASKS[s] >> k & 1) == 1 && !burnt[d][k];
        }

        boolean alike(int d, int a, int b) {
            for (int k = 0; k < 7; k++) {
                if (shows(d, a, k) != shows(d, b, k)) {
                    return false;
                }
            }
            return true;
        }
    }

    private Now now = new Now();
    private final Deque<Now> saved = new ArrayDeque<>();
    private String buffer = "";

    private static void index(boolean isFine) {
        if (!isFine) {
            throw new IndexOutOfBoundsException();
        }
    }

    private static void argument(boolean isFine) {
        if (!isFine) {
            throw new IllegalArgumentException();
        }
    }

    private static void state(boolean isFine) {
        if (!isFine) {
            throw new IllegalStateException();
        }
    }

    private static boolean in(int value, int least, int most) {
        return least <= value && value <= most;
    }

    private void save() {
        saved.addLast(now.copy());
        if (saved.size() > 6) {
            saved.removeFirst();
        }
    }

    int show(int d, int sign) {
        index(in(d, 0, 5));
        argument(in(sign, 0, 11));
        save();
        int old = now.sign[d];
        now.sign[d] = sign;
        return old;
    }

    int level(int d, int level) {
        index(in(d, 0, 5));
        argument(in(level, 0, 15));
        save();
        int old = now.level[d];
        now.level[d] = level;
        now.credit = new int[6];
        return old;
    }

    int burn(int d, int k, boolean isBurnt) {
        index(in(d, 0, 5) && in(k, 0, 6));
        save();
        boolean old = now.burnt[d][k];
        now.burnt[d][k] = isBurnt;
        if (!isBurnt) {
            now.wear[d][k] = 0;
        }
        return old ? 1 : 0;
    }

    int ambient(int light) {
        argument(in(light, 0, 20));
        save();
        int old = now.ambient;
        now.ambient = light;
        return old;
    }

    int set(int k, int value) {
        index(in(k, 0, 4));
        argument(in(value, RANGES[k][0], RANGES[k][1]));
        save();
        int old = now.setting[k];
        now.setting[k] = value;
        return old;
    }

    int number(int first, int last, int number) {
        index(in(first, 0, 5) && in(last, 0, 5));
        argument(first <= last);
        String written = Integer.toString(number);
        int room = last - first + 1;
        argument(written.length() <= room);
        save();
        String line = "_".repeat(room - written.length()) + written;
        for (int k = 0; k < room; k++) {
            now.sign[first + k] = SIGNS.indexOf(line.charAt(k));
        }
        return written.length();
    }

    int run(int slots) {
        argument(in(slots, 1, 500));
        state(now.gone + slots <= 99999);
        save();
        int more = 0;
        for (int n = 0; n < slots; n++) {
            int d = now.pass()[1];
            for (int k = 0; d >= 0 && k < 7; k++) {
                if (now.shows(d, now.sign[d], k)) {
                    now.wear[d][k]++;
                    if (now.setting[4] > 0 && now.wear[d][k] >= 100 * now.setting[4]) {
                        now.burnt[d][k] = true;
                        more++;
                    }
                }
            }
            if (d >= 0) {
                now.lit[d]++;
            }
        }
        return more;
    }

    int append(int code) {
        argument(in(code, 33, 126));
        state(buffer.length() < 60);
        buffer += (char) code;
        return buffer.length();
    }

    int clearBuffer() {
        int old = buffer.length();
        buffer = "";
        return old;
    }

    private static boolean isText(String text) {
        return text.matches("(?:" + PART + "){1,6}");
    }

    /** A text goes on behind each start but for one that ends with a star or is empty. */
    int firstError() {
        for (int k = 0; k < buffer.length(); k++) {
            String start = buffer.substring(0, k + 1);
            if (!isText(start) && !isText(start + "0")) {
                return k;
            }
        }
        return buffer.length();
    }

    int read() {
        argument(isText(buffer));
        save();
        Matcher parts = Pattern.compile(PART).matcher(buffer);
        int d = 0;
        for (; parts.find(); d++) {
            now.sign[d] = SIGNS.indexOf(parts.group().charAt(0));
            if (parts.group(1) != null) {
                now.level[d] = Integer.parseInt(parts.group(1));
                now.credit = new int[6];
            }
        }
        buffer = "";
        return d;
    }

    int undo() {
        state(!saved.isEmpty());
        now = saved.removeLast();
        return saved.size();
    }

    /** The frame: for each slot {who has it, who is lit}. */
    private static List<int[]> frame(Now from) {
        Now n = from.copy();
        List<int[]> slots = new ArrayList<>();
        while (slots.size() < n.setting[0]) {
            slots.add(n.pass());
        }
        return slots;
    }

    private static int light(Now n, int d) {
        return (int) frame(n).stream().filter(s -> s[1] == d).count() * 1000 / n.setting[0];
    }

    private static int gap(Now n, int d) {
        StringBuilder line = new StringBuilder();
        for (int[] slot : frame(n)) {
            line.append(slot[1] == d ? '#' : '.');
        }
        int longest = 0;
        for (String row : line.toString().split("#")) {
            longest = Math.max(longest, row.length());
        }
        return longest;
    }

    private static boolean flickers(Now n, int d) {
        return frame(n).stream().anyMatch(s -> s[1] == d) && gap(n, d) > n.setting[2];
    }

    private static boolean isSeen(Now n, int d) {
        int light = light(n, d);
        return light >= n.setting[3] * n.ambient && light > 0 && !flickers(n, d);
    }

    private static int how(Now n, boolean isFlicker) {
        int many = 0;
        for (int d = 0; d < 6; d++) {
            many += (isFlicker ? flickers(n, d) : isSeen(n, d)) ? 1 : 0;
        }
        return many;
    }

    private int readable(int d) {
        int signs = 0;
        for (int s = 0; s < 12; s++) {
            signs += now.alike(d, now.sign[d], s) ? 1 << s : 0;
        }
        return signs;
    }

    private boolean isClear(int d) {
        return isSeen(now, d) && readable(d) == 1 << now.sign[d];
    }

    private int mask(int d, boolean isShown) {
        int mask = 0;
        for (int k = 0; k < 7; k++) {
            mask += (isShown ? now.shows(d, now.sign[d], k) : now.burnt[d][k]) ? 1 << k : 0;
        }
        return mask;
    }

    int digit(int d, int what) {
        index(in(d, 0, 5));
        argument(in(what, 0, 11));
        return switch (what) {
            case 0 -> now.sign[d];
            case 1 -> now.level[d];
            case 2 -> mask(d, false);
            case 3 -> mask(d, true);
            case 4 -> now.credit[d];
            case 5 -> light(now, d);
            case 6 -> gap(now, d);
            case 7 -> flickers(now, d) ? 1 : 0;
            case 8 -> isSeen(now, d) ? 1 : 0;
            case 9 -> isClear(d) ? 1 : 0;
            case 10 -> readable(d);
            default -> now.lit[d];
        };
    }

    int wear(int d, int k) {
        index(in(d, 0, 5) && in(k, 0, 6));
        return now.wear[d][k];
    }

    int slot(int slot, boolean isLit) {
        argument(in(slot, 0, now.setting[0] - 1));
        return frame(now).get(slot)[isLit ? 1 : 0];
    }

    private int changes() {
        List<int[]> slots = frame(now);
        int many = 0;
        for (int k = 1; k < slots.size(); k++) {
            many += slots.get(k)[0] == slots.get(k - 1)[0] ? 0 : 1;
        }
        return many;
    }

    int count(int what) {
        argument(in(what, 0, 10));
        int clear = 0;
        int burnt = 0;
        for (int d = 0; d < 6; d++) {
            clear += isClear(d) ? 1 : 0;
            burnt += Integer.bitCount(mask(d, false));
        }
        return switch (what) {
            case 0 -> now.gone;
            case 1 -> Arrays.stream(now.level).sum();
            case 2 -> (int) frame(now).stream().filter(s -> s[1] < 0).count();
            case 3 -> changes();
            case 4 -> how(now, true);
            case 5 -> how(now, false);
            case 6 -> clear;
            case 7 -> burnt;
            case 8 -> now.ambient;
            case 9 -> now.ahead;
            default -> saved.size();
        };
    }

    int setting(int k) {
        index(in(k, 0, 4));
        return now.setting[k];
    }

    private Now with(int d, int level) {
        Now then = now.copy();
        then.level[d] = level;
        then.credit = new int[6];
        return then;
    }

    int ifLevel(int d, int level, int what) {
        index(in(d, 0, 5));
        argument(in(level, 0, 15) && in(what, 0, 2));
        Now then = with(d, level);
        return what == 0 ? light(then, d) : how(then, what == 2);
    }

    int leastLevel(int d) {
        index(in(d, 0, 5));
        for (int level = 0; level <= 15; level++) {
            if (isSeen(with(d, level), d)) {
                return level;
            }
        }
        return -1;
    }

    int alikeSigns(int d) {
        index(in(d, 0, 5));
        int pairs = 0;
        for (int a = 0; a < 12; a++) {
            for (int b = 0; b < a; b++) {
                pairs += now.alike(d, a, b) ? 1 : 0;
            }
        }
        return pairs;
    }

    int numberShown() {
        StringBuilder line = new StringBuilder();
        for (int d = 0; d < 6; d++) {
            if (now.sign[d] != 11 && !isClear(d)) {
                return -1;
            }
            line.append(SIGNS.charAt(now.sign[d]));
        }
        String shown = line.toString();
        return shown.matches("_*-?[0-9]+") ? Integer.parseInt(shown.replace("_", "")) : -1;
    }

    double evenness() {
        int[] lights = new int[6];
        int lit = 0;
        for (int d = 0; d < 6; d++) {
            if (now.level[d] > 0) {
                lights[lit++] = light(now, d);
            }
        }
        int[] all = Arrays.copyOf(lights, lit);
        Arrays.sort(all);
        return lit == 0 || all[lit - 1] == 0 ? 1.0 : (double) all[0] / all[lit - 1];
    }

    long digest() {
        List<Long> values = new ArrayList<>();
        for (int what = 0; what < 11; what++) {
            values.add((long) count(what));
        }
        for (int k = 0; k < 5; k++) {
            values.add((long) setting(k));
        }
        for (int d = 0; d < 6; d++) {
            for (int what = 0; what < 12; what++) {
                values.add((long) digit(d, what));
            }
            for (int k = 0; k < 7; k++) {
                values.add((long) wear(d, k));
            }
            for (int what = 0; what < 3; what++) {
                values.add((long) ifLevel(d, 9, what));
            }
            values.add((long) leastLevel(d));
            values.add((long) alikeSigns(d));
        }
        for (int k = 0; k < 6; k++) {
            values.add((long) slot(k, true));
            values.add((long) slot(k, false));
        }
        values.add((long) numberShown());
        values.add(Double.doubleToLongBits(evenness()));
        values.add((long) buffer.length());
        buffer.chars().forEach(c -> values.add((long) c));
        long hash = 2729;
        for (long v : values) {
            hash = 31 * hash + v;
        }
        return hash;
    }
}
