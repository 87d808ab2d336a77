/**
 * Four documents that are cut, joined, moved about and repeated, with a pattern that is looked for in them and an
 * automaton that reads them.
 *
 * <p>Every row is made in the constructor and used again, so that no call makes anything but the exception it throws.
 */
public final class PairedTexts {

    public static final int NONE = -1;

    private static final int DOCUMENTS = 4;
    private static final int LONGEST_TEXT = 1000;
    private static final int LONGEST_PATTERN = 16;
    private static final int BYTES_OF_A_NUMBER = 8;
    private static final int STATES = 8;
    private static final int BYTE_VALUES = 256;

    private static final long NAME_FACTOR = 1000003L;
    private static final long NAME_MODULUS = (1L << 61) - 1;
    private static final long LOWEST_31_BITS = (1L << 31) - 1;
    private static final long LOWEST_30_BITS = (1L << 30) - 1;

    private final Text[] texts;
    private final Pattern sought;
    private final Automaton automaton;

    /** A new text is built here and then changes places with the old one, so that the old one can be read until then. */
    private Text draft;

    public PairedTexts() {
        texts = new Text[DOCUMENTS];
        for (int d = 0; d < DOCUMENTS; d++) {
            texts[d] = new Text();
        }
        draft = new Text();
        sought = new Pattern();
        automaton = new Automaton();
    }

    public int write(int d, long bytes, int n) throws IllegalArgumentException, UnsupportedOperationException {
        Text text = textOf(d);
        requireArgument(n >= 1 && n <= BYTES_OF_A_NUMBER);
        requireRoom(text.size + n);
        for (int k = 0; k < n; k++) {
            text.add(byteOf(bytes, k));
        }
        return text.size;
    }

    public int length(int d) throws IllegalArgumentException {
        return textOf(d).size;
    }

    public int byteAt(int d, int i) throws IllegalArgumentException, IndexOutOfBoundsException {
        Text text = textOf(d);
        requireInside(i >= 0 && i < text.size);
        return text.bytes[i];
    }

    public int copy(int d, int from, int to, int e) throws IllegalArgumentException, IndexOutOfBoundsException {
        Text source = textOf(d);
        requireDocument(e);
        requireInside(source.hasRange(from, to));
        draft.clear();
        draft.addRange(source, from, to);
        return draftBecomesTextOf(e);
    }

    public int join(int d, int e, int g) throws IllegalArgumentException, UnsupportedOperationException {
        Text first = textOf(d);
        Text second = textOf(e);
        requireDocument(g);
        requireRoom(first.size + second.size);
        draft.clear();
        draft.addRange(first, 0, first.size);
        draft.addRange(second, 0, second.size);
        return draftBecomesTextOf(g);
    }

    public int insert(int d, int at, int e, int from, int to)
            throws IllegalArgumentException, IndexOutOfBoundsException, UnsupportedOperationException {
        Text text = textOf(d);
        Text source = textOf(e);
        requireInside(source.hasRange(from, to) && text.hasPiece(at));
        requireRoom(text.size + (to - from));
        draft.clear();
        draft.addRange(text, 0, at);
        draft.addRange(source, from, to);
        draft.addRange(text, at, text.size);
        return draftBecomesTextOf(d);
    }

    public int delete(int d, int from, int to) throws IllegalArgumentException, IndexOutOfBoundsException {
        Text text = textOf(d);
        requireInside(text.hasRange(from, to));
        draft.clear();
        draft.addRange(text, 0, from);
        draft.addRange(text, to, text.size);
        return draftBecomesTextOf(d);
    }

    public int move(int d, int from, int to, int at) throws IllegalArgumentException, IndexOutOfBoundsException {
        Text text = textOf(d);
        requireInside(text.hasRange(from, to));
        int moved = to - from;
        requireInside(at >= 0 && at <= text.size - moved);
        draft.clear();
        if (at <= from) {
            draft.addRange(text, 0, at);
            draft.addRange(text, from, to);
            draft.addRange(text, at, from);
            draft.addRange(text, to, text.size);
        } else {
            // at is a place of the rest; behind the gap it stands for a place further on in the text itself.
            draft.addRange(text, 0, from);
            draft.addRange(text, to, at + moved);
            draft.addRange(text, from, to);
            draft.addRange(text, at + moved, text.size);
        }
        return draftBecomesTextOf(d);
    }

    public int repeat(int d, int from, int to, int n)
            throws IllegalArgumentException, IndexOutOfBoundsException, UnsupportedOperationException {
        Text text = textOf(d);
        requireArgument(n >= 0);
        requireInside(text.hasRange(from, to));
        long repeated = (long) n * (to - from);
        requireRoom(text.size - (to - from) + repeated);
        // A range without bytes may be repeated any number of times: nothing is to be done for it.
        int times = from == to ? 0 : n;
        draft.clear();
        draft.addRange(text, 0, from);
        for (int k = 0; k < times; k++) {
            draft.addRange(text, from, to);
        }
        draft.addRange(text, to, text.size);
        return draftBecomesTextOf(d);
    }

    public boolean same(int d, int i, int e, int j, int n) throws IllegalArgumentException, IndexOutOfBoundsException {
        Text first = textOf(d);
        Text second = textOf(e);
        requireArgument(n >= 0);
        requireInside(first.hasRange(i, (long) i + n) && second.hasRange(j, (long) j + n));
        return commonBeginning(first, i, second, j) >= n;
    }

    public int prefix(int d, int i, int e, int j) throws IllegalArgumentException, IndexOutOfBoundsException {
        Text first = textOf(d);
        Text second = textOf(e);
        requireInside(first.hasPiece(i) && second.hasPiece(j));
        return commonBeginning(first, i, second, j);
    }

    public int order(int d, int i, int e, int j) throws IllegalArgumentException, IndexOutOfBoundsException {
        Text first = textOf(d);
        Text second = textOf(e);
        requireInside(first.hasPiece(i) && second.hasPiece(j));
        int common = commonBeginning(first, i, second, j);
        boolean firstEnds = i + common == first.size;
        boolean secondEnds = j + common == second.size;
        if (firstEnds && secondEnds) {
            return 0;
        }
        if (firstEnds) {
            return -1;
        }
        if (secondEnds) {
            return 1;
        }
        return first.bytes[i + common] < second.bytes[j + common] ? -1 : 1;
    }

    public long name(int d, int from, int to) throws IllegalArgumentException, IndexOutOfBoundsException {
        Text text = textOf(d);
        requireInside(text.hasRange(from, to));
        long name = 0;
        for (int i = from; i < to; i++) {
            name = nameWithOneMore(name, text.bytes[i]);
        }
        return name;
    }

    public void pattern(long low, long high, int n) throws IllegalArgumentException {
        requireArgument(n >= 1 && n <= LONGEST_PATTERN);
        sought.become(low, high, n);
    }

    public int count(int d, int from, int to)
            throws IllegalArgumentException, IndexOutOfBoundsException, IllegalStateException {
        Text text = textOf(d);
        requireInside(text.hasRange(from, to));
        requirePattern();
        int places = 0;
        for (int i = from; i < to; i++) {
            if (sought.standsAt(text, i, to)) {
                places++;
            }
        }
        return places;
    }

    public int find(int d, int i, int k)
            throws IllegalArgumentException, IndexOutOfBoundsException, IllegalStateException {
        Text text = textOf(d);
        requireArgument(k >= 0);
        requireInside(text.hasPiece(i));
        requirePattern();
        int passed = 0;
        for (int place = i; place < text.size; place++) {
            if (sought.standsAt(text, place, text.size)) {
                if (passed == k) {
                    return place;
                }
                passed++;
            }
        }
        return NONE;
    }

    public void lead(int s, int low, int high, int t) throws IllegalArgumentException {
        requireState(s);
        requireState(t);
        requireArgument(0 <= low && low <= high && high < BYTE_VALUES);
        for (int b = low; b <= high; b++) {
            automaton.setNext(s, b, t);
        }
    }

    public void accept(int s, boolean does) throws IllegalArgumentException {
        requireState(s);
        automaton.accepting[s] = does;
    }

    public int run(int d, int from, int to, int s) throws IllegalArgumentException, IndexOutOfBoundsException {
        Text text = textOf(d);
        requireState(s);
        requireInside(text.hasRange(from, to));
        int state = s;
        for (int i = from; i < to; i++) {
            state = automaton.nextOf(state, text.bytes[i]);
        }
        return state;
    }

    public int accepted(int d, int from, int to, int s) throws IllegalArgumentException, IndexOutOfBoundsException {
        Text text = textOf(d);
        requireState(s);
        requireInside(text.hasRange(from, to));
        int state = s;
        int beginnings = automaton.accepting[state] ? 1 : 0;
        for (int i = from; i < to; i++) {
            state = automaton.nextOf(state, text.bytes[i]);
            if (automaton.accepting[state]) {
                beginnings++;
            }
        }
        return beginnings;
    }

    private Text textOf(int d) {
        requireDocument(d);
        return texts[d];
    }

    private int draftBecomesTextOf(int d) {
        Text old = texts[d];
        texts[d] = draft;
        draft = old;
        return texts[d].size;
    }

    private static void requireDocument(int d) {
        if (d < 0 || d >= DOCUMENTS) {
            throw new IllegalArgumentException("no such document");
        }
    }

    private static void requireState(int s) {
        if (s < 0 || s >= STATES) {
            throw new IllegalArgumentException("no such state");
        }
    }

    private static void requireArgument(boolean holds) {
        if (!holds) {
            throw new IllegalArgumentException("a number is not one that this call takes");
        }
    }

    private static void requireInside(boolean holds) {
        if (!holds) {
            throw new IndexOutOfBoundsException("a place is not in the text");
        }
    }

    private static void requireRoom(long size) {
        if (size > LONGEST_TEXT) {
            throw new UnsupportedOperationException("the text would be too long");
        }
    }

    private void requirePattern() {
        if (sought.size == 0) {
            throw new IllegalStateException("there is no pattern");
        }
    }

    private static int byteOf(long number, int k) {
        return (int) (number >>> (8 * k)) & 255;
    }

    private static int commonBeginning(Text first, int i, Text second, int j) {
        int most = Math.min(first.size - i, second.size - j);
        int common = 0;
        while (common < most && first.bytes[i + common] == second.bytes[j + common]) {
            common++;
        }
        return common;
    }

    /**
     * The product of a name and the factor may need 81 bits, so the name is multiplied in two parts, of which the upper
     * one counts 2^31 times; what of it comes to 2^61 or above is folded back, as 2^61 is 1 modulo 2^61 - 1.
     */
    private static long nameWithOneMore(long name, int b) {
        long upper = NAME_FACTOR * (name >>> 31);
        long lower = NAME_FACTOR * (name & LOWEST_31_BITS);
        long folded = (upper >>> 30) + ((upper & LOWEST_30_BITS) << 31);
        return (folded + lower + b + 1) % NAME_MODULUS;
    }

    /** A row of bytes 0 .. 255, of which the first size ones count. */
    private static final class Text {
        final int[] bytes = new int[LONGEST_TEXT];
        int size = 0;

        void clear() {
            size = 0;
        }

        void add(int b) {
            bytes[size] = b;
            size++;
        }

        void addRange(Text source, int from, int to) {
            System.arraycopy(source.bytes, from, bytes, size, to - from);
            size += to - from;
        }

        /** The end is a long, as a sum of two numbers of a caller may be above every int. */
        boolean hasRange(int from, long to) {
            return 0 <= from && from <= to && to <= size;
        }

        boolean hasPiece(int i) {
            return 0 <= i && i <= size;
        }
    }

    /** A row of 1 to 16 bytes; its size is 0 as long as there is none. */
    private static final class Pattern {
        final int[] bytes = new int[LONGEST_PATTERN];
        int size = 0;

        void become(long low, long high, int n) {
            for (int k = 0; k < n; k++) {
                bytes[k] = k < BYTES_OF_A_NUMBER ? byteOf(low, k) : byteOf(high, k - BYTES_OF_A_NUMBER);
            }
            size = n;
        }

        boolean standsAt(Text text, int place, int end) {
            if (size > end - place) {
                return false;
            }
            for (int k = 0; k < size; k++) {
                if (text.bytes[place + k] != bytes[k]) {
                    return false;
                }
            }
            return true;
        }
    }

    /** The next states of all states and bytes in one row, those of a state side by side. */
    private static final class Automaton {
        final int[] next = new int[STATES * BYTE_VALUES];
        final boolean[] accepting = new boolean[STATES];

        int nextOf(int state, int b) {
            return next[state * BYTE_VALUES + b];
        }

        void setNext(int state, int b, int to) {
            next[state * BYTE_VALUES + b] = to;
        }
    }
}
