import java.math.BigInteger;

/** Each promise of the document, by its number: ordinary calls, the edges, and the calls that throw. */
public final class PromisesTest {
    private static final Class<IllegalArgumentException> ILLEGAL = IllegalArgumentException.class;
    private static final Class<IndexOutOfBoundsException> BOUNDS = IndexOutOfBoundsException.class;
    private static final Class<UnsupportedOperationException> UNSUPPORTED = UnsupportedOperationException.class;
    private static final Class<IllegalStateException> STATE = IllegalStateException.class;
    private static final int MIN = Integer.MIN_VALUE;
    private static final int MAX = Integer.MAX_VALUE;
    private static final int[] NO_DOCUMENT = {-1, 4, MIN, MAX};
    private static final int[] NO_STATE = {-1, 8, MIN, MAX};

    private static final Due due = new Due();

    public static void main(String[] args) {
        newObject();
        write();
        length();
        byteAt();
        copy();
        join();
        insert();
        delete();
        move();
        repeat();
        same();
        prefix();
        order();
        name();
        pattern();
        count();
        find();
        lead();
        accept();
        run();
        accepted();
        due.end();
    }

    private static PairedTexts with(String... texts) {
        PairedTexts x = new PairedTexts();
        for (int d = 0; d < texts.length; d++) {
            for (int i = 0; i < texts[d].length(); i++) {
                x.write(d, texts[d].charAt(i), 1);
            }
        }
        return x;
    }

    private static PairedTexts withLengths(int first, int second) {
        PairedTexts x = with("a", "b");
        x.repeat(0, 0, 1, first);
        x.repeat(1, 0, 1, second);
        return x;
    }

    private static String text(PairedTexts x, int d) {
        StringBuilder read = new StringBuilder();
        for (int i = 0; i < x.length(d); i++) {
            read.append((char) x.byteAt(d, i));
        }
        return read.toString();
    }

    private static String all(PairedTexts x) {
        return text(x, 0) + "|" + text(x, 1) + "|" + text(x, 2) + "|" + text(x, 3);
    }

    private static void patternOf(PairedTexts x, String bytes) {
        long[] numbers = new long[2];
        for (int k = 0; k < bytes.length(); k++) {
            numbers[k / 8] |= (long) bytes.charAt(k) << (8 * (k % 8));
        }
        x.pattern(numbers[0], numbers[1], bytes.length());
    }

    /** A range of ab (length 2) that is not in it, for each way in which it can be. */
    private static int[][] rangesNotIn() {
        return new int[][] {{-1, 1}, {0, 3}, {2, 1}, {3, 3}, {-1, -1}, {MIN, MAX}, {0, MAX}, {MAX, MIN}, {MAX, MAX},
                {MIN, 0}};
    }

    private static void newObject() {
        PairedTexts x = new PairedTexts();
        due.is("1 texts", "|||", () -> all(x));
        due.failsToDo("1 no pattern", STATE, () -> x.count(0, 0, 0));
        for (int s = 0; s < 8; s++) {
            int state = s;
            due.is("1 accepts " + s, 0, () -> x.accepted(0, 0, 0, state));
        }
        x.write(0, 0xff80L, 3);
        for (int s = 0; s < 8; s++) {
            int state = s;
            due.is("1 next of " + s + " with 128", 0, () -> x.run(0, 0, 1, state));
            due.is("1 next of " + s + " with 255", 0, () -> x.run(0, 1, 2, state));
            due.is("1 next of " + s + " with 0", 0, () -> x.run(0, 2, 3, state));
        }
        PairedTexts other = new PairedTexts();
        due.is("1 another object has texts of its own", "|||", () -> all(other));
    }

    private static void write() {
        PairedTexts x = new PairedTexts();
        due.is("2 lowest first", 3, () -> x.write(0, 0x7a636261L, 3));
        due.is("2 text", "abc|||", () -> all(x));
        due.is("2 behind", 4, () -> x.write(0, 0x64L, 1));
        due.is("2 eight", 12, () -> x.write(0, 0xff80010203040506L, 8));
        due.is("2 bytes", "abcd\6\5\4\3\2\1\u0080\u00ff|||", () -> all(x));
        due.is("2 other document", 8, () -> x.write(3, -1L, 8));
        due.is("2 other text", "\u00ff\u00ff\u00ff\u00ff\u00ff\u00ff\u00ff\u00ff", () -> text(x, 3));
        for (int n : new int[] {0, 9, -1, MIN, MAX}) {
            due.fails("2 n " + n, ILLEGAL, () -> x.write(0, 1L, n));
        }
        for (int d : NO_DOCUMENT) {
            due.fails("2 d " + d, ILLEGAL, () -> x.write(d, 1L, 1));
        }
        due.is("2 nothing changed", 12, () -> x.length(0));

        PairedTexts full = withLengths(996, 1000);
        due.fails("2 too long", UNSUPPORTED, () -> full.write(0, 0L, 5));
        due.is("2 nothing put", 996, () -> full.length(0));
        due.is("2 just full", 1000, () -> full.write(0, 0x0100000000L + 'z', 4));
        due.is("2 last byte", 0, () -> full.byteAt(0, 999));
        due.is("2 byte before", (int) 'z', () -> full.byteAt(0, 996));
        due.fails("2 full", UNSUPPORTED, () -> full.write(0, 0L, 1));
        due.fails("2 illegal argument first", ILLEGAL, () -> full.write(0, 0L, 9));
    }

    private static void length() {
        PairedTexts x = with("", "a", "ab", "abc");
        for (int d = 0; d < 4; d++) {
            int document = d;
            due.is("3 length " + d, d, () -> x.length(document));
        }
        for (int d : NO_DOCUMENT) {
            due.fails("3 d " + d, ILLEGAL, () -> x.length(d));
        }
    }

    private static void byteAt() {
        PairedTexts x = with("ab\0\u00ff", "c");
        due.is("4 first", (int) 'a', () -> x.byteAt(0, 0));
        due.is("4 zero", 0, () -> x.byteAt(0, 2));
        due.is("4 last", 255, () -> x.byteAt(0, 3));
        due.is("4 other", (int) 'c', () -> x.byteAt(1, 0));
        for (int i : new int[] {-1, 4, MIN, MAX}) {
            due.fails("4 i " + i, BOUNDS, () -> x.byteAt(0, i));
        }
        due.fails("4 none in an empty text", BOUNDS, () -> x.byteAt(2, 0));
        for (int d : NO_DOCUMENT) {
            due.fails("4 d " + d, ILLEGAL, () -> x.byteAt(d, -1));
        }
        x.delete(0, 1, 4);
        due.fails("4 what was taken out", BOUNDS, () -> x.byteAt(0, 1));
    }

    private static void copy() {
        PairedTexts x = with("abcde", "xyz");
        due.is("5 range", 3, () -> x.copy(0, 1, 4, 1));
        due.is("5 texts", "abcde|bcd||", () -> all(x));
        due.is("5 to itself", 3, () -> x.copy(0, 2, 5, 0));
        due.is("5 itself", "cde|bcd||", () -> all(x));
        due.is("5 whole", 3, () -> x.copy(0, 0, 3, 3));
        x.write(0, 'f', 1);
        due.is("5 the copy is on its own", "cdef|bcd||cde", () -> all(x));
        due.is("5 none", 0, () -> x.copy(0, 4, 4, 3));
        due.is("5 none there", "cdef|bcd||", () -> all(x));

        PairedTexts y = with("ab", "q");
        for (int[] r : rangesNotIn()) {
            due.fails("5 range " + r[0] + " .. " + r[1], BOUNDS, () -> y.copy(0, r[0], r[1], 1));
        }
        for (int d : NO_DOCUMENT) {
            due.fails("5 d " + d, ILLEGAL, () -> y.copy(d, 5, 6, 1));
            due.fails("5 e " + d, ILLEGAL, () -> y.copy(0, 5, 6, d));
        }
        due.is("5 nothing changed", "ab|q||", () -> all(y));
    }

    private static void join() {
        PairedTexts x = with("ab", "cd", "q");
        due.is("6 to a third", 4, () -> x.join(0, 1, 2));
        due.is("6 texts", "ab|cd|abcd|", () -> all(x));
        due.is("6 to the first", 4, () -> x.join(0, 1, 0));
        due.is("6 first", "abcd|cd|abcd|", () -> all(x));
        due.is("6 to the second", 6, () -> x.join(0, 1, 1));
        due.is("6 second", "abcd|abcdcd|abcd|", () -> all(x));
        due.is("6 with itself", 8, () -> x.join(2, 2, 2));
        due.is("6 itself", "abcd|abcdcd|abcdabcd|", () -> all(x));
        due.is("6 with none", 4, () -> x.join(0, 3, 2));
        due.is("6 none", 0, () -> x.join(3, 3, 0));
        due.is("6 none there", "|abcdcd|abcd|", () -> all(x));
        for (int d : NO_DOCUMENT) {
            due.fails("6 d " + d, ILLEGAL, () -> x.join(d, 1, 2));
            due.fails("6 e " + d, ILLEGAL, () -> x.join(1, d, 2));
            due.fails("6 g " + d, ILLEGAL, () -> x.join(1, 2, d));
        }
        due.is("6 nothing changed", "|abcdcd|abcd|", () -> all(x));

        PairedTexts full = withLengths(600, 400);
        due.is("6 just full", 1000, () -> full.join(0, 1, 2));
        due.is("6 the seam", "ab", () -> "" + (char) full.byteAt(2, 599) + (char) full.byteAt(2, 600));
        full.write(1, 'c', 1);
        due.fails("6 too long", UNSUPPORTED, () -> full.join(0, 1, 3));
        due.fails("6 illegal argument first", ILLEGAL, () -> full.join(0, 1, 4));
        due.is("6 nothing joined", 0, () -> full.length(3));
    }

    private static void insert() {
        PairedTexts x = with("abcd", "vwxyz");
        due.is("7 into the middle", 6, () -> x.insert(0, 1, 1, 2, 4));
        due.is("7 texts", "axybcd|vwxyz||", () -> all(x));
        due.is("7 at the front", 7, () -> x.insert(0, 0, 1, 4, 5));
        due.is("7 at the end", 8, () -> x.insert(0, 7, 1, 0, 1));
        due.is("7 front and end", "zaxybcdv|vwxyz||", () -> all(x));
        due.is("7 none", 8, () -> x.insert(0, 8, 1, 5, 5));
        due.is("7 into an empty text", 2, () -> x.insert(2, 0, 1, 0, 2));
        due.is("7 its own", 9, () -> x.insert(1, 2, 1, 1, 5));
        due.is("7 as it was", "zaxybcdv|vwwxyzxyz|vw|", () -> all(x));

        PairedTexts y = with("abc", "qr");
        for (int[] r : rangesNotIn()) {
            due.fails("7 range " + r[0] + " .. " + r[1], BOUNDS, () -> y.insert(0, 0, 1, r[0], r[1]));
        }
        for (int at : new int[] {-1, 4, MIN, MAX}) {
            due.fails("7 at " + at, BOUNDS, () -> y.insert(0, at, 1, 0, 1));
            due.fails("7 none at " + at, BOUNDS, () -> y.insert(0, at, 1, 0, 0));
        }
        for (int d : NO_DOCUMENT) {
            due.fails("7 d " + d, ILLEGAL, () -> y.insert(d, 9, 1, 9, 9));
            due.fails("7 e " + d, ILLEGAL, () -> y.insert(0, 9, d, 9, 9));
        }
        due.is("7 nothing changed", "abc|qr||", () -> all(y));

        PairedTexts full = withLengths(998, 3);
        due.fails("7 too long", UNSUPPORTED, () -> full.insert(0, 500, 1, 0, 3));
        due.fails("7 bounds first", BOUNDS, () -> full.insert(0, 999, 1, 0, 3));
        due.fails("7 illegal argument first", ILLEGAL, () -> full.insert(4, 999, 1, 0, 3));
        due.is("7 nothing put", 998, () -> full.length(0));
        due.is("7 just full", 1000, () -> full.insert(0, 500, 1, 1, 3));
        due.fails("7 full with itself", UNSUPPORTED, () -> full.insert(0, 0, 0, 0, 1000));
        due.is("7 none into a full one", 1000, () -> full.insert(0, 1000, 1, 3, 3));
    }

    private static void delete() {
        PairedTexts x = with("abcdef", "xyz");
        due.is("8 middle", 4, () -> x.delete(0, 2, 4));
        due.is("8 texts", "abef|xyz||", () -> all(x));
        due.is("8 front", 3, () -> x.delete(0, 0, 1));
        due.is("8 end", 2, () -> x.delete(0, 2, 3));
        due.is("8 none", 2, () -> x.delete(0, 2, 2));
        due.is("8 left", "be|xyz||", () -> all(x));
        due.is("8 whole", 0, () -> x.delete(1, 0, 3));
        due.is("8 none of none", 0, () -> x.delete(1, 0, 0));
        due.is("8 none left", "be|||", () -> all(x));
        for (int[] r : rangesNotIn()) {
            due.fails("8 range " + r[0] + " .. " + r[1], BOUNDS, () -> x.delete(0, r[0], r[1]));
        }
        for (int d : NO_DOCUMENT) {
            due.fails("8 d " + d, ILLEGAL, () -> x.delete(d, 5, 6));
        }
        due.is("8 nothing changed", "be|||", () -> all(x));
    }

    private static void move() {
        due.is("9 on", "aefbcdg", () -> moved("abcdefg", 1, 4, 3));
        due.is("9 back", "adefbcg", () -> moved("abcdefg", 3, 6, 1));
        due.is("9 to the front", "defabcg", () -> moved("abcdefg", 3, 6, 0));
        due.is("9 to the end", "aefgbcd", () -> moved("abcdefg", 1, 4, 4));
        due.is("9 a little on", "aebcdfg", () -> moved("abcdefg", 1, 4, 2));
        due.is("9 to its own place", "abcdefg", () -> moved("abcdefg", 2, 5, 2));
        due.is("9 whole", "abc", () -> moved("abc", 0, 3, 0));
        due.is("9 none", "abc", () -> moved("abc", 1, 1, 3));
        due.is("9 of none", "", () -> moved("", 0, 0, 0));

        PairedTexts x = with("abcde", "xyz");
        due.is("9 length", 5, () -> x.move(0, 0, 2, 3));
        due.is("9 texts", "cdeab|xyz||", () -> all(x));
        due.is("9 length of another", 3, () -> x.move(1, 2, 3, 0));
        due.is("9 another", "cdeab|zxy||", () -> all(x));
        for (int at : new int[] {-1, 4, 5, MIN, MAX}) {
            due.fails("9 at " + at, BOUNDS, () -> x.move(0, 1, 3, at));
        }
        due.fails("9 whole at 1", BOUNDS, () -> x.move(0, 0, 5, 1));
        for (int d : NO_DOCUMENT) {
            due.fails("9 d " + d, ILLEGAL, () -> x.move(d, 9, 9, 9));
        }
        PairedTexts y = with("ab");
        for (int[] r : rangesNotIn()) {
            due.fails("9 range " + r[0] + " .. " + r[1], BOUNDS, () -> y.move(0, r[0], r[1], 0));
        }
        due.is("9 nothing changed", "cdeab|zxy||ab|||", () -> all(x) + all(y));
    }

    private static String moved(String text, int from, int to, int at) {
        PairedTexts x = with(text);
        x.move(0, from, to, at);
        return text(x, 0);
    }

    private static void repeat() {
        PairedTexts x = with("abcd", "xyz");
        due.is("10 three times", 8, () -> x.repeat(0, 1, 3, 3));
        due.is("10 texts", "abcbcbcd|xyz||", () -> all(x));
        due.is("10 once", 8, () -> x.repeat(0, 2, 7, 1));
        due.is("10 the same", "abcbcbcd|xyz||", () -> all(x));
        due.is("10 not at all", 3, () -> x.repeat(0, 1, 6, 0));
        due.is("10 whole", 6, () -> x.repeat(1, 0, 3, 2));
        due.is("10 whole twice", "acd|xyzxyz||", () -> all(x));
        due.is("10 none very often", 3, () -> x.repeat(0, 3, 3, MAX));
        due.is("10 none of none", 0, () -> x.repeat(2, 0, 0, MAX));
        due.fails("10 very often", UNSUPPORTED, () -> x.repeat(0, 0, 1, MAX));
        due.fails("10 very often, a product that wraps round", UNSUPPORTED, () -> x.repeat(0, 0, 2, MAX));
        due.fails("10 a product of just 2^32", UNSUPPORTED, () -> withLengths(4, 0).repeat(0, 0, 4, 1 << 30));
        for (int n : new int[] {-1, MIN}) {
            due.fails("10 n " + n, ILLEGAL, () -> x.repeat(0, 0, 0, n));
            due.fails("10 n first " + n, ILLEGAL, () -> x.repeat(0, 5, 6, n));
        }
        for (int d : NO_DOCUMENT) {
            due.fails("10 d " + d, ILLEGAL, () -> x.repeat(d, 5, 6, 1));
        }
        due.is("10 nothing changed", "acd|xyzxyz||", () -> all(x));

        PairedTexts y = with("ab");
        for (int[] r : rangesNotIn()) {
            due.fails("10 range " + r[0] + " .. " + r[1], BOUNDS, () -> y.repeat(0, r[0], r[1], 0));
            due.fails("10 bounds first", BOUNDS, () -> y.repeat(0, r[0], r[1], MAX));
        }
        due.fails("10 one too long", UNSUPPORTED, () -> y.repeat(0, 0, 1, 1000));
        due.is("10 just full", 1000, () -> y.repeat(0, 0, 1, 999));
        due.is("10 end", (int) 'b', () -> y.byteAt(0, 999));
        due.fails("10 full", UNSUPPORTED, () -> y.repeat(0, 999, 1000, 2));
        due.is("10 full once", 1000, () -> y.repeat(0, 0, 1000, 1));
        due.is("10 full, none", 1000, () -> y.repeat(0, 7, 7, 9));
        due.is("10 full, not at all", 0, () -> y.repeat(0, 0, 1000, 0));
    }

    private static void same() {
        PairedTexts x = with("abcabd", "xabc");
        due.is("11 same", true, () -> x.same(0, 0, 1, 1, 3));
        due.is("11 same, and more behind", true, () -> x.same(0, 0, 0, 3, 2));
        due.is("11 the last one differs", false, () -> x.same(0, 0, 0, 3, 3));
        due.is("11 the first one differs", false, () -> x.same(0, 0, 1, 0, 1));
        due.is("11 with itself", true, () -> x.same(0, 0, 0, 0, 6));
        due.is("11 none", true, () -> x.same(0, 6, 1, 4, 0));
        due.is("11 none of none", true, () -> x.same(2, 0, 3, 0, 0));
        due.fails("11 beyond the first", BOUNDS, () -> x.same(0, 4, 1, 0, 3));
        due.fails("11 beyond the second", BOUNDS, () -> x.same(0, 0, 1, 2, 3));
        due.fails("11 none, beyond", BOUNDS, () -> x.same(0, 7, 1, 0, 0));
        due.fails("11 none, beyond the second", BOUNDS, () -> x.same(0, 0, 1, 5, 0));
        due.fails("11 below", BOUNDS, () -> x.same(0, -1, 1, 0, 2));
        due.fails("11 below the second", BOUNDS, () -> x.same(0, 0, 1, -1, 2));
        due.fails("11 a sum that wraps round", BOUNDS, () -> x.same(0, MAX, 0, MAX, MAX));
        due.fails("11 a second sum that wraps round", BOUNDS, () -> x.same(0, 0, 1, 1, MAX));
        due.fails("11 both sums wrap round", BOUNDS, () -> x.same(0, 1, 1, 1, MAX));
        due.fails("11 least", BOUNDS, () -> x.same(0, MIN, 1, MIN, 0));
        for (int n : new int[] {-1, MIN}) {
            due.fails("11 n " + n, ILLEGAL, () -> x.same(0, 2, 1, 2, n));
            due.fails("11 n first " + n, ILLEGAL, () -> x.same(0, 9, 1, 9, n));
        }
        for (int d : NO_DOCUMENT) {
            due.fails("11 d " + d, ILLEGAL, () -> x.same(d, 9, 1, 9, 0));
            due.fails("11 e " + d, ILLEGAL, () -> x.same(0, 9, d, 9, 0));
        }
    }

    private static void prefix() {
        PairedTexts x = with("abcabd", "xabc");
        due.is("12 to the end of one", 3, () -> x.prefix(0, 0, 1, 1));
        due.is("12 up to where they differ", 2, () -> x.prefix(0, 0, 0, 3));
        due.is("12 nothing", 0, () -> x.prefix(0, 0, 1, 0));
        due.is("12 with itself", 6, () -> x.prefix(0, 0, 0, 0));
        due.is("12 the piece without bytes", 0, () -> x.prefix(0, 6, 1, 1));
        due.is("12 both without bytes", 0, () -> x.prefix(0, 6, 2, 0));
        x.delete(0, 3, 6);
        x.write(1, 'a', 1);
        due.is("12 what was taken out does not count", 3, () -> x.prefix(0, 0, 1, 1));
        due.is("12 the end of the longer one", 0, () -> x.prefix(0, 0, 1, 5));
        due.is("12 the end of the shorter one", 0, () -> x.prefix(1, 5, 0, 3));
        piecesThatAreNone("12", x, (d, i, e, j) -> x.prefix(d, i, e, j));

        PairedTexts zeros = with("\0\0", "\0\0\0\0");
        due.is("12 bytes 0 to the end of the first", 1, () -> zeros.prefix(0, 1, 1, 0));
        due.is("12 bytes 0 to the end of the second", 1, () -> zeros.prefix(1, 0, 0, 1));
    }

    private interface Pieces {
        int ask(int d, int i, int e, int j);
    }

    /** The texts of 0 and 1 have 3 and 5 bytes here. */
    private static void piecesThatAreNone(String promise, PairedTexts x, Pieces pieces) {
        due.is(promise + " lengths", "3 5", () -> x.length(0) + " " + x.length(1));
        for (int i : new int[] {-1, 4, MIN, MAX}) {
            due.fails(promise + " i " + i, BOUNDS, () -> pieces.ask(0, i, 1, 0));
        }
        for (int j : new int[] {-1, 6, MIN, MAX}) {
            due.fails(promise + " j " + j, BOUNDS, () -> pieces.ask(0, 0, 1, j));
        }
        for (int d : NO_DOCUMENT) {
            due.fails(promise + " d " + d, ILLEGAL, () -> pieces.ask(d, 9, 1, 9));
            due.fails(promise + " e " + d, ILLEGAL, () -> pieces.ask(0, 9, d, 9));
        }
    }

    private static void order() {
        PairedTexts x = with("abc", "abcab", "\u007f\u0080", "\u0080\u007f");
        due.is("13 a beginning", -1, () -> x.order(0, 0, 1, 0));
        due.is("13 the other way round", 1, () -> x.order(1, 0, 0, 0));
        due.is("13 the same", 0, () -> x.order(0, 0, 0, 0));
        due.is("13 the same in two texts", 0, () -> x.order(0, 3, 1, 5));
        due.is("13 lesser byte", -1, () -> x.order(1, 3, 0, 1));
        due.is("13 greater byte", 1, () -> x.order(0, 1, 1, 3));
        due.is("13 lesser behind a common byte", 1, () -> x.order(1, 0, 1, 3));
        due.is("13 bytes from 0 to 255", -1, () -> x.order(2, 0, 3, 0));
        due.is("13 bytes from 0 to 255, round", 1, () -> x.order(3, 0, 2, 0));
        due.is("13 without bytes before all", -1, () -> x.order(0, 3, 1, 4));
        due.is("13 all behind without bytes", 1, () -> x.order(1, 4, 0, 3));
        piecesThatAreNone("13", x, (d, i, e, j) -> x.order(d, i, e, j));
        PairedTexts y = with("aabz", "aacb");
        due.is("13 the first that differs counts", -1, () -> y.order(0, 0, 1, 0));
    }

    private static void name() {
        PairedTexts x = with("\0a\u00ff", "ab");
        due.is("14 none", 0L, () -> x.name(0, 3, 3));
        due.is("14 byte 0", 1L, () -> x.name(0, 0, 1));
        due.is("14 byte 255", 256L, () -> x.name(0, 2, 3));
        due.is("14 two", 98L * 1000003L + 99L, () -> x.name(1, 0, 2));
        due.is("14 three", (1L * 1000003L + 98L) * 1000003L + 256L, () -> x.name(0, 0, 3));
        String ten = "\u00ff\u00fe\0\1qwerty";
        String longOne = ten.repeat(100);
        PairedTexts y = with(ten);
        y.repeat(0, 0, 10, 100);
        for (int to = 1; to <= 1000; to += 37) {
            int end = to;
            due.is("14 long one to " + to, nameOf(longOne.substring(0, to)), () -> y.name(0, 0, end));
        }
        due.is("14 a range", nameOf(longOne.substring(123, 987)), () -> y.name(0, 123, 987));
        PairedTexts z = with("ab");
        for (int[] r : rangesNotIn()) {
            due.fails("14 range " + r[0] + " .. " + r[1], BOUNDS, () -> z.name(0, r[0], r[1]));
        }
        for (int d : NO_DOCUMENT) {
            due.fails("14 d " + d, ILLEGAL, () -> z.name(d, 5, 6));
        }
    }

    private static BigInteger nameOf(String bytes) {
        BigInteger modulus = BigInteger.ONE.shiftLeft(61).subtract(BigInteger.ONE);
        BigInteger name = BigInteger.ZERO;
        for (int i = 0; i < bytes.length(); i++) {
            BigInteger more = BigInteger.valueOf(bytes.charAt(i) + 1);
            name = name.multiply(BigInteger.valueOf(1000003)).add(more).mod(modulus);
        }
        return name;
    }

    private static void pattern() {
        PairedTexts x = with("abcdefghijklmnopqrst", "\u0080\u00ff\0");
        for (int n = 1; n <= 16; n++) {
            x.pattern(0x6a69686766656463L, 0x7271706f6e6d6c6bL, n);
            int end = 2 + n;
            due.is("15 just the n lowest: " + n, 1, () -> x.count(0, 2, end));
            due.is("15 not fewer: " + n, 0, () -> x.count(0, 2, end - 1));
        }
        x.pattern(0x00ff80L, -1L, 3);
        due.is("15 bytes from 0 to 255", 0, () -> x.find(1, 0, 0));
        x.pattern(0x6564L, 0L, 2);
        due.is("15 a new one in place of the old one", 3, () -> x.find(0, 0, 0));
        for (int n : new int[] {0, 17, -1, MIN, MAX}) {
            due.failsToDo("15 n " + n, ILLEGAL, () -> x.pattern(0x6161L, 0L, n));
        }
        due.is("15 nothing changed", 3, () -> x.find(0, 0, 0));
        PairedTexts y = with("ab");
        due.failsToDo("15 a wrong one", ILLEGAL, () -> y.pattern(0x61L, 0L, 17));
        due.fails("15 is none", STATE, () -> y.count(0, 0, 2));
    }

    private static void count() {
        PairedTexts x = with("aaaabaaa", "aa");
        due.fails("16 no pattern", STATE, () -> x.count(0, 0, 8));
        due.fails("16 no pattern, no bytes", STATE, () -> x.count(2, 0, 0));
        due.fails("16 bounds before no pattern", BOUNDS, () -> x.count(0, 0, 9));
        due.fails("16 illegal argument before no pattern", ILLEGAL, () -> x.count(4, 0, 0));
        patternOf(x, "aa");
        due.is("16 overlapping", 5, () -> x.count(0, 0, 8));
        due.is("16 all of it in the range", 2, () -> x.count(0, 1, 4));
        due.is("16 just the range", 1, () -> x.count(0, 2, 4));
        due.is("16 range too short", 0, () -> x.count(0, 0, 1));
        due.is("16 range without bytes", 0, () -> x.count(0, 8, 8));
        due.is("16 text without bytes", 0, () -> x.count(3, 0, 0));
        due.is("16 another text", 1, () -> x.count(1, 0, 2));
        patternOf(x, "aba");
        due.is("16 another pattern", 1, () -> x.count(0, 0, 8));
        due.is("16 not the end of it", 0, () -> x.count(0, 0, 5));
        due.is("16 not the front of it", 0, () -> x.count(0, 4, 8));
        patternOf(x, "aaa");
        due.is("16 longer than the text", 0, () -> x.count(1, 0, 2));
        x.delete(0, 6, 8);
        due.is("16 what was taken out does not count", 0, () -> x.count(0, 4, 6));
        for (int[] r : rangesNotIn()) {
            due.fails("16 range " + r[0] + " .. " + r[1], BOUNDS, () -> x.count(1, r[0], r[1]));
        }
        for (int d : NO_DOCUMENT) {
            due.fails("16 d " + d, ILLEGAL, () -> x.count(d, 5, 6));
        }
        PairedTexts y = withLengths(1000, 0);
        patternOf(y, "aaaaaaaaaaaaaaaa");
        due.is("16 in a full text", 985, () -> y.count(0, 0, 1000));
    }

    private static void find() {
        PairedTexts x = with("xaaaabaaa", "aa");
        due.fails("17 no pattern", STATE, () -> x.find(0, 0, 0));
        due.fails("17 bounds before no pattern", BOUNDS, () -> x.find(0, 10, 0));
        due.fails("17 illegal argument before no pattern", ILLEGAL, () -> x.find(0, 10, -1));
        patternOf(x, "aa");
        int[] places = {1, 2, 3, 6, 7};
        for (int k = 0; k < places.length; k++) {
            int number = k;
            due.is("17 the " + k + "-th", places[k], () -> x.find(0, 0, number));
        }
        due.is("17 no more", PairedTexts.NONE, () -> x.find(0, 0, 5));
        due.is("17 far more", PairedTexts.NONE, () -> x.find(0, 0, MAX));
        due.is("17 from such a place on", 2, () -> x.find(0, 2, 0));
        due.is("17 from another place on", 6, () -> x.find(0, 4, 0));
        due.is("17 from there the next", 7, () -> x.find(0, 4, 1));
        due.is("17 from the last place on", PairedTexts.NONE, () -> x.find(0, 8, 0));
        due.is("17 from the end on", PairedTexts.NONE, () -> x.find(0, 9, 0));
        due.is("17 text without bytes", PairedTexts.NONE, () -> x.find(2, 0, 0));
        due.is("17 another text", 0, () -> x.find(1, 0, 0));
        x.delete(0, 8, 9);
        due.is("17 what was taken out does not count", PairedTexts.NONE, () -> x.find(0, 7, 0));
        for (int i : new int[] {-1, 9, MIN, MAX}) {
            due.fails("17 i " + i, BOUNDS, () -> x.find(0, i, 0));
        }
        for (int k : new int[] {-1, MIN}) {
            due.fails("17 k " + k, ILLEGAL, () -> x.find(0, 0, k));
            due.fails("17 k first " + k, ILLEGAL, () -> x.find(0, 99, k));
        }
        for (int d : NO_DOCUMENT) {
            due.fails("17 d " + d, ILLEGAL, () -> x.find(d, 99, 0));
        }
    }

    private static void lead() {
        PairedTexts x = with("\0\1\u0063\u0064\u0065\u00fe\u00ff");
        x.lead(0, 1, 100, 3);
        x.lead(3, 255, 255, 7);
        x.lead(7, 0, 0, 1);
        due.is("18 below low", 0, () -> x.run(0, 0, 1, 0));
        due.is("18 low", 3, () -> x.run(0, 1, 2, 0));
        due.is("18 between", 3, () -> x.run(0, 2, 3, 0));
        due.is("18 high", 3, () -> x.run(0, 3, 4, 0));
        due.is("18 above high", 0, () -> x.run(0, 4, 5, 0));
        due.is("18 the byte before 255", 0, () -> x.run(0, 5, 6, 3));
        due.is("18 byte 255", 7, () -> x.run(0, 6, 7, 3));
        due.is("18 byte 0", 1, () -> x.run(0, 0, 1, 7));
        due.is("18 another state", 0, () -> x.run(0, 1, 2, 1));
        x.lead(0, 99, 99, 5);
        due.is("18 a later call counts", 5, () -> x.run(0, 2, 3, 0));
        due.is("18 for its bytes alone", 3, () -> x.run(0, 3, 4, 0));
        for (int s : NO_STATE) {
            due.failsToDo("18 s " + s, ILLEGAL, () -> x.lead(s, 0, 255, 6));
            due.failsToDo("18 t " + s, ILLEGAL, () -> x.lead(0, 0, 255, s));
        }
        int[][] bytes = {{-1, 255}, {0, 256}, {2, 1}, {256, 256}, {-1, -1}, {MIN, MAX}, {0, MAX}, {MAX, MIN}};
        for (int[] b : bytes) {
            due.failsToDo("18 bytes " + b[0] + " .. " + b[1], ILLEGAL, () -> x.lead(0, b[0], b[1], 6));
        }
        due.is("18 nothing changed", "0 3 5 3 0", () -> x.run(0, 0, 1, 0) + " " + x.run(0, 1, 2, 0) + " "
                + x.run(0, 2, 3, 0) + " " + x.run(0, 3, 4, 0) + " " + x.run(0, 4, 5, 0));
        x.lead(6, 0, 255, 6);
        due.is("18 all bytes, to itself", 6, () -> x.run(0, 0, 7, 6));
    }

    private static void accept() {
        PairedTexts x = new PairedTexts();
        x.accept(0, true);
        x.accept(7, true);
        x.accept(3, true);
        x.accept(3, false);
        due.is("19 which accept", "10000001", () -> whichAccept(x));
        x.accept(0, true);
        x.accept(4, false);
        due.is("19 told again", "10000001", () -> whichAccept(x));
        for (int s : NO_STATE) {
            due.failsToDo("19 s " + s, ILLEGAL, () -> x.accept(s, true));
            due.failsToDo("19 not s " + s, ILLEGAL, () -> x.accept(s, false));
        }
        due.is("19 nothing changed", "10000001", () -> whichAccept(x));
    }

    private static String whichAccept(PairedTexts x) {
        StringBuilder which = new StringBuilder();
        for (int s = 0; s < 8; s++) {
            which.append(x.accepted(0, 0, 0, s));
        }
        return which.toString();
    }

    /** From each state s the byte a leads to the state behind it, from the last one to 0; b leads to 0. */
    private static PairedTexts counting(String... texts) {
        PairedTexts x = with(texts);
        for (int s = 0; s < 8; s++) {
            x.lead(s, 'a', 'a', (s + 1) % 8);
        }
        return x;
    }

    private static void run() {
        PairedTexts x = counting("aaabaaaaaaaaaa", "ab");
        due.is("20 none", 5, () -> x.run(0, 3, 3, 5));
        due.is("20 one", 6, () -> x.run(0, 0, 1, 5));
        due.is("20 in order", 2, () -> x.run(0, 0, 14, 0));
        due.is("20 from another state on", 0, () -> x.run(0, 0, 3, 5));
        due.is("20 a range", 4, () -> x.run(0, 1, 8, 1));
        due.is("20 the last byte counts", 0, () -> x.run(1, 0, 2, 1));
        due.is("20 text without bytes", 7, () -> x.run(2, 0, 0, 7));
        statesAndRangesThatAreNone("20", (d, from, to, s) -> x.run(d, from, to, s));
    }

    private static void statesAndRangesThatAreNone(String promise, Pieces call) {
        for (int[] r : rangesNotIn()) {
            due.fails(promise + " range " + r[0] + " .. " + r[1], BOUNDS, () -> call.ask(1, r[0], r[1], 0));
        }
        for (int s : NO_STATE) {
            due.fails(promise + " s " + s, ILLEGAL, () -> call.ask(1, 0, 1, s));
            due.fails(promise + " s first " + s, ILLEGAL, () -> call.ask(1, 5, 6, s));
        }
        for (int d : NO_DOCUMENT) {
            due.fails(promise + " d " + d, ILLEGAL, () -> call.ask(d, 5, 6, 0));
        }
    }

    private static void accepted() {
        PairedTexts x = counting("aaabaaaaaaaaaa", "ab");
        due.is("21 none accepts", 0, () -> x.accepted(0, 0, 14, 0));
        x.accept(2, true);
        due.is("21 in order", 3, () -> x.accepted(0, 0, 14, 0));
        due.is("21 the whole one too", 1, () -> x.accepted(0, 0, 2, 0));
        due.is("21 not beyond the range", 0, () -> x.accepted(0, 0, 1, 0));
        due.is("21 that without bytes too", 1, () -> x.accepted(0, 0, 1, 2));
        due.is("21 range without bytes", 1, () -> x.accepted(0, 14, 14, 2));
        due.is("21 range without bytes, other state", 0, () -> x.accepted(0, 14, 14, 3));
        due.is("21 text without bytes", 1, () -> x.accepted(2, 0, 0, 2));
        due.is("21 from a place on", 1, () -> x.accepted(0, 1, 4, 1));
        x.accept(0, true);
        due.is("21 two states accept", 6, () -> x.accepted(0, 0, 14, 0));
        for (int s = 0; s < 8; s++) {
            x.accept(s, true);
        }
        due.is("21 all accept", 15, () -> x.accepted(0, 0, 14, 6));
        x.repeat(0, 0, 1, 987);
        due.is("21 a full text", 1001, () -> x.accepted(0, 0, 1000, 0));
        statesAndRangesThatAreNone("21", (d, from, to, s) -> x.accepted(d, from, to, s));
    }
}
