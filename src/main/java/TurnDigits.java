import java.util.Arrays;

/**
 * Digits of seven segments, lit in turn: levels share the slots by credits, and looks at the
 * frame of the next slots tell what of them can be seen.
 */
public final class TurnDigits {
    public static final int NONE = -1;

    private static final int DIGITS = 6;
    private static final int SEGMENTS = 7;
    private static final int SIGNS = 12;
    private static final int MINUS = 10;
    private static final int NOTHING = 11;
    private static final int[] MASKS = {63, 6, 91, 79, 102, 109, 125, 7, 127, 111, 64, 0};

    private static final int MOST_LEVEL = 15;
    private static final int FIRST_LEVEL = 4;
    private static final int MOST_AMBIENT = 20;
    private static final int FIRST_AMBIENT = 2;
    private static final int MOST_SLOTS_A_RUN = 500;
    private static final int MOST_SLOTS = 99999;

    private static final int SETTINGS = 5;
    private static final int FRAME_LENGTH = 0;
    private static final int DARK_CHANGES = 1;
    private static final int PERSISTENCE = 2;
    private static final int CONTRAST = 3;
    private static final int LIFE = 4;
    private static final int[] LEAST_VALUES = {6, 0, 1, 1, 0};
    private static final int[] MOST_VALUES = {96, 1, 96, 20, 99};
    private static final int[] FIRST_VALUES = {24, 0, 12, 10, 0};
    private static final int MOST_FRAME = 96;
    private static final int FULL_LIGHT = 1000;

    private static final int MOST_CHARACTERS = 60;
    private static final int MOST_SAVED = 6;
    private static final int DIGIT_PROPERTIES = 12;
    private static final int NUMBERS = 11;

    private static final long DIGEST_START = 2729L;
    private static final int DIGEST_LEVEL = 9;
    private static final int DIGEST_SLOTS = 6;

    private final State state;
    private final History history;
    private final Text text;
    private final Frame frame;
    private final Frame trial;

    public TurnDigits() {
        state = new State();
        history = new History();
        text = new Text();
        frame = new Frame();
        trial = new Frame();
    }

    // ---- digits

    public int show(int digit, int sign) throws IndexOutOfBoundsException, IllegalArgumentException {
        requireDigit(digit);
        requireRange(sign, 0, SIGNS - 1);
        history.push(state);
        int previous = state.signs[digit];
        state.signs[digit] = sign;
        return previous;
    }

    public int level(int digit, int level) throws IndexOutOfBoundsException, IllegalArgumentException {
        requireDigit(digit);
        requireRange(level, 0, MOST_LEVEL);
        history.push(state);
        int previous = state.levels[digit];
        state.levels[digit] = level;
        state.clearCredits();
        return previous;
    }

    public int burn(int digit, int segment, boolean isBurnt) throws IndexOutOfBoundsException {
        requireDigit(digit);
        requireSegment(segment);
        history.push(state);
        int bit = 1 << segment;
        int previous = (state.burnt[digit] & bit) != 0 ? 1 : 0;
        if (isBurnt) {
            state.burnt[digit] |= bit;
        } else {
            state.burnt[digit] &= ~bit;
            state.wears[wearPlace(digit, segment)] = 0;
        }
        return previous;
    }

    public int ambient(int light) throws IllegalArgumentException {
        requireRange(light, 0, MOST_AMBIENT);
        history.push(state);
        int previous = state.ambientLight;
        state.ambientLight = light;
        return previous;
    }

    public int set(int setting, int value) throws IndexOutOfBoundsException, IllegalArgumentException {
        requireSetting(setting);
        requireRange(value, LEAST_VALUES[setting], MOST_VALUES[setting]);
        history.push(state);
        int previous = state.settings[setting];
        state.settings[setting] = value;
        return previous;
    }

    public int number(int first, int last, int number)
            throws IndexOutOfBoundsException, IllegalArgumentException {
        requireDigit(first);
        requireDigit(last);
        int length = numberLength(number);
        // A last one ahead of the first one leaves no room, so that no number fits there.
        requireRange(length, 1, last - first + 1);
        history.push(state);
        state.putNumber(first, last, number, length);
        return length;
    }

    public int run(int slots) throws IllegalArgumentException, IllegalStateException {
        requireRange(slots, 1, MOST_SLOTS_A_RUN);
        if (state.time + slots > MOST_SLOTS) {
            throw new IllegalStateException("too many slots would have gone by");
        }
        history.push(state);
        int becameBurnt = 0;
        for (int k = 0; k < slots; k++) {
            becameBurnt += state.passSlot();
        }
        return becameBurnt;
    }

    // ---- texts

    public int append(int code) throws IllegalArgumentException, IllegalStateException {
        requireRange(code, 33, 126);
        if (!text.put(code)) {
            throw new IllegalStateException("the buffer is full");
        }
        return text.length;
    }

    public int clearBuffer() {
        int previous = text.length;
        text.length = 0;
        return previous;
    }

    public int firstError() {
        return text.scan();
    }

    public int read() throws IllegalArgumentException {
        if (text.scan() < text.length || !text.isWhole()) {
            throw new IllegalArgumentException("the buffer is not complete digits as a text");
        }
        history.push(state);
        boolean isLevelTold = false;
        for (int d = 0; d < DIGITS && d < text.parts; d++) {
            state.signs[d] = text.signs[d];
            if (text.levels[d] != NONE) {
                state.levels[d] = text.levels[d];
                isLevelTold = true;
            }
        }
        if (isLevelTold) {
            state.clearCredits();
        }
        text.length = 0;
        return text.parts;
    }

    public int undo() throws IllegalStateException {
        if (history.size == 0) {
            throw new IllegalStateException("no state is saved");
        }
        history.pop(state);
        return history.size;
    }

    // ---- looks; nothing is changed

    public int digit(int digit, int what) throws IndexOutOfBoundsException, IllegalArgumentException {
        requireDigit(digit);
        requireRange(what, 0, DIGIT_PROPERTIES - 1);
        frame.foresee(state);
        return property(digit, what);
    }

    public int wear(int digit, int segment) throws IndexOutOfBoundsException {
        requireDigit(digit);
        requireSegment(segment);
        return state.wears[wearPlace(digit, segment)];
    }

    public int slot(int slot, boolean isLit) throws IllegalArgumentException {
        requireRange(slot, 0, state.settings[FRAME_LENGTH] - 1);
        frame.foresee(state);
        return isLit ? frame.lit[slot] : frame.owners[slot];
    }

    public int count(int what) throws IllegalArgumentException {
        requireRange(what, 0, NUMBERS - 1);
        frame.foresee(state);
        return total(what);
    }

    public int setting(int setting) throws IndexOutOfBoundsException {
        requireSetting(setting);
        return state.settings[setting];
    }

    // ---- what would be; nothing is changed

    public int ifLevel(int digit, int level, int what)
            throws IndexOutOfBoundsException, IllegalArgumentException {
        requireDigit(digit);
        requireRange(level, 0, MOST_LEVEL);
        requireRange(what, 0, 2);
        trial.foreseeLevel(state, digit, level);
        return trialNumber(digit, what);
    }

    public int leastLevel(int digit) throws IndexOutOfBoundsException {
        requireDigit(digit);
        return leastSeenLevel(digit);
    }

    public int alikeSigns(int digit) throws IndexOutOfBoundsException {
        requireDigit(digit);
        return alikePairs(digit);
    }

    public int numberShown() {
        frame.foresee(state);
        return clearNumber();
    }

    public double evenness() {
        frame.foresee(state);
        return lightShare();
    }

    public long digest() {
        frame.foresee(state);
        long hash = DIGEST_START;
        for (int what = 0; what < NUMBERS; what++) {
            hash = mix(hash, total(what));
        }
        for (int k = 0; k < SETTINGS; k++) {
            hash = mix(hash, state.settings[k]);
        }
        for (int d = 0; d < DIGITS; d++) {
            hash = mixDigit(hash, d);
        }
        for (int k = 0; k < DIGEST_SLOTS; k++) {
            hash = mix(hash, frame.lit[k]);
            hash = mix(hash, frame.owners[k]);
        }
        hash = mix(hash, clearNumber());
        hash = mix(hash, bitsOfShare(lightShare()));
        hash = mix(hash, text.length);
        for (int k = 0; k < MOST_CHARACTERS && k < text.length; k++) {
            hash = mix(hash, text.codes[k]);
        }
        return hash;
    }

    // ---- the parts of the digest

    private static long mix(long hash, long value) {
        return 31L * hash + value;
    }

    private long mixDigit(long start, int digit) {
        long hash = start;
        for (int what = 0; what < DIGIT_PROPERTIES; what++) {
            hash = mix(hash, property(digit, what));
        }
        for (int k = 0; k < SEGMENTS; k++) {
            hash = mix(hash, state.wears[wearPlace(digit, k)]);
        }
        trial.foreseeLevel(state, digit, DIGEST_LEVEL);
        for (int what = 0; what < 3; what++) {
            hash = mix(hash, trialNumber(digit, what));
        }
        hash = mix(hash, leastSeenLevel(digit));
        return mix(hash, alikePairs(digit));
    }

    /**
     * The bits of a share, 0 to 1, made by arithmetic since no library call for them is allowed.
     * Each step is exact: doubling keeps the fraction's bits, and so does taking 1 away.
     */
    private static long bitsOfShare(double share) {
        if (share <= 0.0) {
            return 0L;
        }
        double part = share;
        long exponent = 1023L;
        for (int k = 0; k < 1000 && part < 1.0; k++) {
            part = part * 2.0;
            exponent--;
        }
        long fraction = (long) ((part - 1.0) * 4503599627370496.0);
        return (exponent << 52) | fraction;
    }

    // ---- looks at the frame, which has to be foreseen ahead of them

    private int property(int digit, int what) {
        switch (what) {
            case 0: return state.signs[digit];
            case 1: return state.levels[digit];
            case 2: return state.burnt[digit];
            case 3: return state.shownSegments(digit);
            case 4: return state.credits[digit];
            case 5: return frame.lightOf(digit);
            case 6: return frame.gaps[digit];
            case 7: return frame.flickers(digit) ? 1 : 0;
            case 8: return frame.isSeen(digit) ? 1 : 0;
            case 9: return isClear(digit) ? 1 : 0;
            case 10: return state.readableSigns(digit);
            default: return state.litSlots[digit];
        }
    }

    private int total(int what) {
        switch (what) {
            case 0: return state.time;
            case 1: return state.levelSum();
            case 2: return frame.darkSlots();
            case 3: return frame.changes();
            case 4: return frame.flickering();
            case 5: return frame.seen();
            case 6: return clearDigits();
            case 7: return state.burntSegments();
            case 8: return state.ambientLight;
            case 9: return state.ahead;
            default: return history.size;
        }
    }

    private boolean isClear(int digit) {
        return frame.isSeen(digit) && Integer.bitCount(state.readableSigns(digit)) == 1;
    }

    private int clearDigits() {
        int clear = 0;
        for (int d = 0; d < DIGITS; d++) {
            if (isClear(d)) {
                clear++;
            }
        }
        return clear;
    }

    private int clearNumber() {
        int start = 0;
        while (start < DIGITS && state.signs[start] == NOTHING) {
            start++;
        }
        boolean isNegative = start < DIGITS && state.signs[start] == MINUS;
        int firstFigure = isNegative ? start + 1 : start;
        if (firstFigure >= DIGITS || isNegative && !isClear(start)) {
            return NONE;
        }
        int number = 0;
        for (int d = firstFigure; d < DIGITS; d++) {
            if (state.signs[d] > 9 || !isClear(d)) {
                return NONE;
            }
            number = 10 * number + state.signs[d];
        }
        return isNegative ? -number : number;
    }

    private double lightShare() {
        int least = FULL_LIGHT;
        int greatest = 0;
        for (int d = 0; d < DIGITS; d++) {
            if (state.levels[d] > 0) {
                int light = frame.lightOf(d);
                least = Math.min(least, light);
                greatest = Math.max(greatest, light);
            }
        }
        return greatest > 0 ? (double) least / (double) greatest : 1.0;
    }

    // ---- what would be

    /** Asks the trial frame, which has to be foreseen ahead. */
    private int trialNumber(int digit, int what) {
        switch (what) {
            case 0: return trial.lightOf(digit);
            case 1: return trial.seen();
            default: return trial.flickering();
        }
    }

    private int leastSeenLevel(int digit) {
        for (int level = 0; level <= MOST_LEVEL; level++) {
            trial.foreseeLevel(state, digit, level);
            if (trial.isSeen(digit)) {
                return level;
            }
        }
        return NONE;
    }

    private int alikePairs(int digit) {
        int working = ~state.burnt[digit];
        int pairs = 0;
        for (int a = 0; a < SIGNS; a++) {
            for (int b = a + 1; b < SIGNS; b++) {
                if ((MASKS[a] & working) == (MASKS[b] & working)) {
                    pairs++;
                }
            }
        }
        return pairs;
    }

    // ---- arguments

    private static void requireDigit(int digit) {
        if (digit < 0 || digit >= DIGITS) {
            throw new IndexOutOfBoundsException("no such digit");
        }
    }

    private static void requireSegment(int segment) {
        if (segment < 0 || segment >= SEGMENTS) {
            throw new IndexOutOfBoundsException("no such segment");
        }
    }

    private static void requireSetting(int setting) {
        if (setting < 0 || setting >= SETTINGS) {
            throw new IndexOutOfBoundsException("no such setting");
        }
    }

    private static void requireRange(int value, int least, int most) {
        if (value < least || value > most) {
            throw new IllegalArgumentException("out of range");
        }
    }

    private static int wearPlace(int digit, int segment) {
        return digit * SEGMENTS + segment;
    }

    private static long magnitude(int number) {
        // As a long, because the least int has no opposite of its own.
        return number < 0 ? -(long) number : number;
    }

    /** How many digits a number takes with its minus; one more than there are if it takes more. */
    private static int numberLength(int number) {
        int length = number < 0 ? 2 : 1;
        long rest = magnitude(number) / 10;
        while (rest > 0 && length <= DIGITS) {
            rest = rest / 10;
            length++;
        }
        return length;
    }

    // ---- slots

    /** Lets one slot change the credits, and tells who has it. */
    private static int giveSlot(int[] levels, int[] credits) {
        int sum = 0;
        int owner = NONE;
        for (int d = 0; d < DIGITS; d++) {
            credits[d] += levels[d];
            sum += levels[d];
            if (levels[d] > 0 && (owner == NONE || credits[d] > credits[owner])) {
                owner = d;
            }
        }
        if (owner != NONE) {
            credits[owner] -= sum;
        }
        return owner;
    }

    /** The slot 0 needs no case of its own: nobody had one ahead of it. */
    private static int litIn(int owner, int ahead, boolean areChangesDark) {
        return areChangesDark && owner != ahead ? NONE : owner;
    }

    /** All that undo restores. */
    private static final class State {
        final int[] signs = new int[DIGITS];
        final int[] levels = new int[DIGITS];
        final int[] burnt = new int[DIGITS];
        final int[] credits = new int[DIGITS];
        final int[] litSlots = new int[DIGITS];
        final int[] wears = new int[DIGITS * SEGMENTS];
        final int[] settings = new int[SETTINGS];
        int ambientLight = FIRST_AMBIENT;
        int time = 0;
        int ahead = NONE;

        State() {
            Arrays.fill(signs, NOTHING);
            Arrays.fill(levels, FIRST_LEVEL);
            System.arraycopy(FIRST_VALUES, 0, settings, 0, SETTINGS);
        }

        void copyFrom(State other) {
            System.arraycopy(other.signs, 0, signs, 0, DIGITS);
            System.arraycopy(other.levels, 0, levels, 0, DIGITS);
            System.arraycopy(other.burnt, 0, burnt, 0, DIGITS);
            System.arraycopy(other.credits, 0, credits, 0, DIGITS);
            System.arraycopy(other.litSlots, 0, litSlots, 0, DIGITS);
            System.arraycopy(other.wears, 0, wears, 0, DIGITS * SEGMENTS);
            System.arraycopy(other.settings, 0, settings, 0, SETTINGS);
            ambientLight = other.ambientLight;
            time = other.time;
            ahead = other.ahead;
        }

        void clearCredits() {
            Arrays.fill(credits, 0);
        }

        void putNumber(int first, int last, int number, int length) {
            int figures = number < 0 ? length - 1 : length;
            long rest = magnitude(number);
            for (int d = last; d >= first; d--) {
                int place = last - d;
                if (place < figures) {
                    signs[d] = (int) (rest % 10);
                    rest = rest / 10;
                } else {
                    signs[d] = place < length ? MINUS : NOTHING;
                }
            }
        }

        /** Lets a slot go by, and returns how many segments become burnt in it. */
        int passSlot() {
            int owner = giveSlot(levels, credits);
            int lit = litIn(owner, ahead, settings[DARK_CHANGES] == 1);
            ahead = owner;
            time++;
            if (lit == NONE) {
                return 0;
            }
            litSlots[lit]++;
            return wearOut(lit);
        }

        private int wearOut(int digit) {
            int life = settings[LIFE] * 100;
            int shown = shownSegments(digit);
            int becameBurnt = 0;
            for (int k = 0; k < SEGMENTS; k++) {
                if ((shown >> k & 1) == 1) {
                    int place = wearPlace(digit, k);
                    wears[place]++;
                    if (life > 0 && wears[place] >= life) {
                        burnt[digit] |= 1 << k;
                        becameBurnt++;
                    }
                }
            }
            return becameBurnt;
        }

        int shownSegments(int digit) {
            return MASKS[signs[digit]] & ~burnt[digit];
        }

        /** A mask of signs. */
        int readableSigns(int digit) {
            int shown = shownSegments(digit);
            int readable = 0;
            for (int k = 0; k < SIGNS; k++) {
                if ((MASKS[k] & ~burnt[digit]) == shown) {
                    readable |= 1 << k;
                }
            }
            return readable;
        }

        int levelSum() {
            int sum = 0;
            for (int d = 0; d < DIGITS; d++) {
                sum += levels[d];
            }
            return sum;
        }

        int burntSegments() {
            int segments = 0;
            for (int d = 0; d < DIGITS; d++) {
                segments += Integer.bitCount(burnt[d]);
            }
            return segments;
        }
    }

    /** The saved states, in a ring, so that dropping the oldest one moves nothing. */
    private static final class History {
        private final State[] saved = new State[MOST_SAVED];
        private int oldest = 0;
        int size = 0;

        History() {
            for (int k = 0; k < MOST_SAVED; k++) {
                saved[k] = new State();
            }
        }

        void push(State state) {
            if (size == MOST_SAVED) {
                oldest = (oldest + 1) % MOST_SAVED;
                size--;
            }
            saved[(oldest + size) % MOST_SAVED].copyFrom(state);
            size++;
        }

        /** Restores the latest one; there has to be one. */
        void pop(State state) {
            size--;
            state.copyFrom(saved[(oldest + size) % MOST_SAVED]);
        }
    }

    /** The slots of a frame, and what can be seen of each digit in it. */
    private static final class Frame {
        final int[] owners = new int[MOST_FRAME];
        final int[] lit = new int[MOST_FRAME];
        final int[] gaps = new int[DIGITS];
        private final int[] litSlots = new int[DIGITS];
        private final int[] levels = new int[DIGITS];
        private final int[] credits = new int[DIGITS];
        private final int[] darkRows = new int[DIGITS];
        private int length = 0;
        private int persistence = 0;
        private int neededLight = 0;

        /** The frame with all as it is. */
        void foresee(State state) {
            System.arraycopy(state.levels, 0, levels, 0, DIGITS);
            System.arraycopy(state.credits, 0, credits, 0, DIGITS);
            passSlots(state);
        }

        /** The frame with another level of one digit. */
        void foreseeLevel(State state, int digit, int level) {
            System.arraycopy(state.levels, 0, levels, 0, DIGITS);
            levels[digit] = level;
            Arrays.fill(credits, 0);
            passSlots(state);
        }

        private void passSlots(State state) {
            length = state.settings[FRAME_LENGTH];
            persistence = state.settings[PERSISTENCE];
            neededLight = state.settings[CONTRAST] * state.ambientLight;
            Arrays.fill(gaps, 0);
            Arrays.fill(litSlots, 0);
            Arrays.fill(darkRows, 0);
            boolean areChangesDark = state.settings[DARK_CHANGES] == 1;
            int ahead = state.ahead;
            for (int k = 0; k < MOST_FRAME && k < length; k++) {
                owners[k] = giveSlot(levels, credits);
                lit[k] = litIn(owners[k], ahead, areChangesDark);
                noteSlot(lit[k]);
                ahead = owners[k];
            }
        }

        private void noteSlot(int litDigit) {
            for (int d = 0; d < DIGITS; d++) {
                if (d == litDigit) {
                    litSlots[d]++;
                    darkRows[d] = 0;
                } else {
                    darkRows[d]++;
                    gaps[d] = Math.max(gaps[d], darkRows[d]);
                }
            }
        }

        int lightOf(int digit) {
            return length > 0 ? litSlots[digit] * FULL_LIGHT / length : 0;
        }

        boolean flickers(int digit) {
            return litSlots[digit] > 0 && gaps[digit] > persistence;
        }

        boolean isSeen(int digit) {
            int light = lightOf(digit);
            return light > 0 && light >= neededLight && !flickers(digit);
        }

        int flickering() {
            int digits = 0;
            for (int d = 0; d < DIGITS; d++) {
                if (flickers(d)) {
                    digits++;
                }
            }
            return digits;
        }

        int seen() {
            int digits = 0;
            for (int d = 0; d < DIGITS; d++) {
                if (isSeen(d)) {
                    digits++;
                }
            }
            return digits;
        }

        int darkSlots() {
            int slots = 0;
            for (int k = 0; k < MOST_FRAME && k < length; k++) {
                if (lit[k] == NONE) {
                    slots++;
                }
            }
            return slots;
        }

        int changes() {
            int slots = 0;
            for (int k = 1; k < MOST_FRAME && k < length; k++) {
                if (owners[k] != owners[k - 1]) {
                    slots++;
                }
            }
            return slots;
        }
    }

    /** The buffer, and the parts that a scan finds in it. */
    private static final class Text {
        private static final int AT_START = 0;
        private static final int BEHIND_SIGN = 1;
        private static final int BEHIND_STAR = 2;
        private static final int BEHIND_ONE = 3;
        private static final int BEHIND_LEVEL = 4;

        final int[] codes = new int[MOST_CHARACTERS];
        int length = 0;
        final int[] signs = new int[DIGITS];
        final int[] levels = new int[DIGITS];
        int parts = 0;
        private int place = AT_START;

        /** Returns false, and puts nothing, if there is no room. */
        boolean put(int code) {
            if (length >= MOST_CHARACTERS) {
                return false;
            }
            codes[length] = code;
            length++;
            return true;
        }

        /** Finds the parts, and returns the index of the first error, the length if there is none. */
        int scan() {
            parts = 0;
            place = AT_START;
            int index = 0;
            while (index < length && index < MOST_CHARACTERS && takes(codes[index])) {
                index++;
            }
            return index;
        }

        /** Whether the parts of a scan without an error could end where it ended. */
        boolean isWhole() {
            return place != AT_START && place != BEHIND_STAR;
        }

        private boolean takes(int code) {
            if (place == BEHIND_STAR) {
                return takesLevel(code);
            }
            if (place == BEHIND_ONE && code >= '0' && code <= '5') {
                tellLevel(10 + code - '0');
                place = BEHIND_LEVEL;
                return true;
            }
            if (place == BEHIND_SIGN && code == '*') {
                place = BEHIND_STAR;
                return true;
            }
            return takesSign(code);
        }

        private boolean takesLevel(int code) {
            if (code < '0' || code > '9') {
                return false;
            }
            tellLevel(code - '0');
            place = code == '1' ? BEHIND_ONE : BEHIND_LEVEL;
            return true;
        }

        private void tellLevel(int level) {
            if (parts > 0 && parts <= DIGITS) {
                levels[parts - 1] = level;
            }
        }

        private boolean takesSign(int code) {
            int sign = signOf(code);
            if (sign == NONE || parts >= DIGITS) {
                return false;
            }
            signs[parts] = sign;
            levels[parts] = NONE;
            parts++;
            place = BEHIND_SIGN;
            return true;
        }

        private static int signOf(int code) {
            if (code >= '0' && code <= '9') {
                return code - '0';
            }
            if (code == '-') {
                return MINUS;
            }
            return code == '_' ? NOTHING : NONE;
        }
    }
}
