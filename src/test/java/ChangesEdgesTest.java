/** The boundary cases of the promises 2 to 10: the calls that write, read and change texts. */
public final class ChangesEdgesTest extends Edges {
    private static final String FIVE = "abcab";
    private static final String FULL = Scene.letters(1000);

    /** Texts of five, three, no and a thousand bytes. */
    private static final Scene USUAL = Scene.of(FIVE, "xyz", "", FULL);
    private static final Scene FOUR = Scene.of("abcd", "ef", "ghi", "jklmn");

    public static void main(String[] args) {
        new ChangesEdgesTest().test();
    }

    private void test() {
        write();
        length();
        byteAt();
        copy();
        join();
        insert();
        delete();
        move();
        repeat();
        end();
    }

    private static String without(String text, int from, int to) {
        return text.substring(0, from) + text.substring(to);
    }

    private static String into(String text, int at, String put) {
        return text.substring(0, at) + put + text.substring(at);
    }

    private void write() {
        writtenBytes();
        writeDocuments();
        writeSizes();
        writeTooLong();
        writeReasons();
    }

    private void writtenBytes() {
        sentence("2", "Puts the n lowest bytes of a number, the lowest one first, behind a document's text.");
        String all = "\210\167\146\125\104\063\042\021";
        for (int size = 1; size <= 8; size++) {
            int n = size;
            becomes(n + " bytes", USUAL, 3 + n, x -> x.write(1, 0x1122334455667788L, n),
                    USUAL.withText(1, "xyz" + all.substring(0, n)));
        }
        becomes("a number below 0", USUAL, 8, x -> x.write(2, -1L, 8), USUAL.withText(2, "\u00ff".repeat(8)));
        becomes("the least number", USUAL, 8, x -> x.write(2, Long.MIN_VALUE, 8),
                USUAL.withText(2, "\0\0\0\0\0\0\0\u0080"));
        becomes("the greatest number", USUAL, 8, x -> x.write(2, Long.MAX_VALUE, 8),
                USUAL.withText(2, "\u00ff".repeat(7) + "\u007f"));
        becomes("bytes of 0", USUAL, 8, x -> x.write(2, 0L, 8), USUAL.withText(2, "\0".repeat(8)));
    }

    private void writeDocuments() {
        boundary("2", "Illegal argument: a document is not 0 .. 3");
        becomesEach("d", FOUR, DOCUMENTS, d -> x -> x.write(d, 0x7a79L, 2), d -> FOUR.text(d).length() + 2,
                d -> FOUR.withText(d, FOUR.text(d) + "yz"));
        refusesEach("d", ILLEGAL, FOUR, NO_DOCUMENTS, d -> x -> x.write(d, 0x7a79L, 2));
    }

    private void writeSizes() {
        boundary("2", "Illegal argument: also if n is not 1 .. 8");
        becomes("n 1", USUAL, 1, x -> x.write(2, 0x6261L, 1), USUAL.withText(2, "a"));
        becomes("n 8", USUAL, 8, x -> x.write(2, 0x6261L, 8), USUAL.withText(2, "ab\0\0\0\0\0\0"));
        refusesEach("n", ILLEGAL, USUAL, new int[] {0, 9, -1, 16, MIN, MAX}, n -> x -> x.write(0, 0x6261L, n));
    }

    private void writeTooLong() {
        boundary("2", "unsupported operation: it would be above 1000");
        for (int size = 1; size <= 8; size++) {
            int n = size;
            Scene fits = Scene.of("x", Scene.letters(1000 - n));
            becomes(n + " behind " + (1000 - n), fits, 1000, x -> x.write(1, 0L, n),
                    fits.withText(1, Scene.letters(1000 - n) + "\0".repeat(n)));
            refuses(n + " behind " + (1001 - n), UNSUPPORTED, Scene.of("x", Scene.letters(1001 - n)),
                    x -> x.write(1, 0L, n));
            refuses(n + " behind 1000", UNSUPPORTED, USUAL, x -> x.write(3, 0L, n));
        }
    }

    private void writeReasons() {
        sentence("2", "illegal argument before unsupported operation");
        refusesEach("full, n", ILLEGAL, USUAL, new int[] {0, 9, -1, MIN, MAX}, n -> x -> x.write(3, 0L, n));
        refusesEach("no document and n 9, d", ILLEGAL, USUAL, NO_DOCUMENTS, d -> x -> x.write(d, 0L, 9));
    }

    private void length() {
        sentence("3", "The length of a document's text.");
        answers("of no bytes", USUAL, 0, x -> x.length(2));
        answers("of the most bytes", USUAL, 1000, x -> x.length(3));
        answers("of one byte", Scene.of("\0"), 1, x -> x.length(0));
        boundary("3", "Illegal argument: a document is not 0 .. 3");
        answersEach("d", FOUR, DOCUMENTS, d -> x -> x.length(d), d -> FOUR.text(d).length());
        refusesEach("d", ILLEGAL, FOUR, NO_DOCUMENTS, d -> x -> x.length(d));
    }

    private void byteAt() {
        boundary("4", "Illegal argument: a document is not 0 .. 3");
        answersEach("d", FOUR, DOCUMENTS, d -> x -> x.byteAt(d, 1), d -> (int) FOUR.text(d).charAt(1));
        refusesEach("d", ILLEGAL, FOUR, NO_DOCUMENTS, d -> x -> x.byteAt(d, 1));

        boundary("4", "index out of bounds: there is none");
        answersEach("of five bytes, i", USUAL, new int[] {0, 4}, i -> x -> x.byteAt(0, i), i -> (int) FIVE.charAt(i));
        refusesEach("of five bytes, i", BOUNDS, USUAL, new int[] {-1, 5, 6, MIN, MAX}, i -> x -> x.byteAt(0, i));
        refusesEach("of no bytes, i", BOUNDS, USUAL, new int[] {-1, 0, 1, MIN, MAX}, i -> x -> x.byteAt(2, i));
        answersEach("of 1000 bytes, i", USUAL, new int[] {0, 999}, i -> x -> x.byteAt(3, i), i -> (int) FULL.charAt(i));
        refusesEach("of 1000 bytes, i", BOUNDS, USUAL, new int[] {-1, 1000, MIN, MAX}, i -> x -> x.byteAt(3, i));
        Scene odd = Scene.of("\0\u007f\u0080\u00ff");
        answers("byte 0", odd, 0, x -> x.byteAt(0, 0));
        answers("byte 127", odd, 127, x -> x.byteAt(0, 1));
        answers("byte 128", odd, 128, x -> x.byteAt(0, 2));
        answers("byte 255", odd, 255, x -> x.byteAt(0, 3));

        sentence("4", "illegal argument before index out of bounds");
        refusesEach("no place, d", ILLEGAL, USUAL, NO_DOCUMENTS, d -> x -> x.byteAt(d, -1));
        refusesEach("no place above, d", ILLEGAL, USUAL, NO_DOCUMENTS, d -> x -> x.byteAt(d, MAX));
    }

    private void copy() {
        boundary("5", "Illegal argument: a document is not 0 .. 3");
        becomesEach("d", FOUR, DOCUMENTS, d -> x -> x.copy(d, 1, 2, 3), d -> 1,
                d -> FOUR.withText(3, FOUR.text(d).substring(1, 2)));
        becomesEach("e", FOUR, DOCUMENTS, e -> x -> x.copy(3, 1, 5, e), e -> 4, e -> FOUR.withText(e, "klmn"));
        refusesEach("d", ILLEGAL, FOUR, NO_DOCUMENTS, d -> x -> x.copy(d, 1, 2, 3));
        refusesEach("e", ILLEGAL, FOUR, NO_DOCUMENTS, e -> x -> x.copy(3, 1, 5, e));

        boundary("5", "index out of bounds: the range is not in the text");
        for (int document : new int[] {0, 2, 3}) {
            int d = document;
            String text = USUAL.text(d);
            becomesRanges("to another", USUAL, text.length(), (from, to) -> x -> x.copy(d, from, to, 1),
                    (from, to) -> to - from, (from, to) -> USUAL.withText(1, text.substring(from, to)));
            becomesRanges("to itself", USUAL, text.length(), (from, to) -> x -> x.copy(d, from, to, d),
                    (from, to) -> to - from, (from, to) -> USUAL.withText(d, text.substring(from, to)));
        }
        refuses("a range that is in the text of e alone", BOUNDS, USUAL, x -> x.copy(1, 0, 5, 0));

        sentence("5", "illegal argument before index out of bounds");
        for (int wrong : NO_DOCUMENTS) {
            refusesRanges("d " + wrong, ILLEGAL, USUAL, 5, (from, to) -> x -> x.copy(wrong, from, to, 1));
            refusesRanges("e " + wrong, ILLEGAL, USUAL, 5, (from, to) -> x -> x.copy(0, from, to, wrong));
        }
    }

    private void join() {
        boundary("6", "Illegal argument: a document is not 0 .. 3");
        becomesEach("d", FOUR, DOCUMENTS, d -> x -> x.join(d, 1, 0), d -> FOUR.text(d).length() + 2,
                d -> FOUR.withText(0, FOUR.text(d) + "ef"));
        becomesEach("e", FOUR, DOCUMENTS, e -> x -> x.join(1, e, 0), e -> 2 + FOUR.text(e).length(),
                e -> FOUR.withText(0, "ef" + FOUR.text(e)));
        becomesEach("g", FOUR, DOCUMENTS, g -> x -> x.join(1, 2, g), g -> 5, g -> FOUR.withText(g, "efghi"));
        refusesEach("d", ILLEGAL, FOUR, NO_DOCUMENTS, d -> x -> x.join(d, 1, 0));
        refusesEach("e", ILLEGAL, FOUR, NO_DOCUMENTS, e -> x -> x.join(1, e, 0));
        refusesEach("g", ILLEGAL, FOUR, NO_DOCUMENTS, g -> x -> x.join(1, 2, g));

        joinNone();
        joinTooLong();

        sentence("6", "illegal argument before unsupported operation");
        refusesEach("too long, g", ILLEGAL, USUAL, NO_DOCUMENTS, g -> x -> x.join(3, 3, g));
        refusesEach("a full one, d", ILLEGAL, USUAL, NO_DOCUMENTS, d -> x -> x.join(d, 3, 3));
        refusesEach("a full one, e", ILLEGAL, USUAL, NO_DOCUMENTS, e -> x -> x.join(3, e, 3));
    }

    private void joinNone() {
        sentence("6", "The text of g becomes that of d and behind it that of e: with a text that has none");
        becomes("none first", USUAL, 5, x -> x.join(2, 0, 1), USUAL.withText(1, FIVE));
        becomes("none behind", USUAL, 5, x -> x.join(0, 2, 1), USUAL.withText(1, FIVE));
        becomes("both", USUAL, 0, x -> x.join(2, 2, 1), USUAL.withText(1, ""));
        answers("all three", USUAL, 0, x -> x.join(2, 2, 2));
        answers("none behind a full one, to itself", USUAL, 1000, x -> x.join(3, 2, 3));
    }

    private void joinTooLong() {
        boundary("6", "unsupported operation: it would be above 1000");
        int[][] fitting = {{999, 1}, {1, 999}, {500, 500}, {1000, 0}, {0, 1000}};
        for (int[] sizes : fitting) {
            Scene fits = Scene.of(Scene.letters(sizes[0]), Scene.letters(sizes[1]), "q");
            String joined = fits.text(0) + fits.text(1);
            String what = sizes[0] + " and " + sizes[1];
            becomes(what, fits, 1000, x -> x.join(0, 1, 2), fits.withText(2, joined));
            becomes(what + " to the first", fits, 1000, x -> x.join(0, 1, 0), fits.withText(0, joined));
            becomes(what + " to the second", fits, 1000, x -> x.join(0, 1, 1), fits.withText(1, joined));
        }
        int[][] tooLong = {{1000, 1}, {1, 1000}, {501, 500}, {500, 501}, {999, 2}, {1000, 1000}};
        for (int[] sizes : tooLong) {
            Scene scene = Scene.of(Scene.letters(sizes[0]), Scene.letters(sizes[1]), "q");
            refusesEach(sizes[0] + " and " + sizes[1] + ", g", UNSUPPORTED, scene, DOCUMENTS,
                    g -> x -> x.join(0, 1, g));
        }
        Scene half = Scene.of(Scene.letters(500), Scene.letters(501));
        becomes("500 twice", half, 1000, x -> x.join(0, 0, 3), half.withText(3, Scene.letters(500).repeat(2)));
        becomes("500 twice to itself", half, 1000, x -> x.join(0, 0, 0),
                half.withText(0, Scene.letters(500).repeat(2)));
        refuses("501 twice", UNSUPPORTED, half, x -> x.join(1, 1, 3));
        refuses("501 twice to itself", UNSUPPORTED, half, x -> x.join(1, 1, 1));
    }

    private void insert() {
        boundary("7", "Illegal argument: a document is not 0 .. 3");
        becomesEach("d", FOUR, DOCUMENTS, d -> x -> x.insert(d, 1, 3, 1, 3), d -> FOUR.text(d).length() + 2,
                d -> FOUR.withText(d, into(FOUR.text(d), 1, "kl")));
        becomesEach("e", FOUR, DOCUMENTS, e -> x -> x.insert(3, 1, e, 0, 2), e -> 7,
                e -> FOUR.withText(3, into("jklmn", 1, FOUR.text(e).substring(0, 2))));
        refusesEach("d", ILLEGAL, FOUR, NO_DOCUMENTS, d -> x -> x.insert(d, 1, 3, 1, 3));
        refusesEach("e", ILLEGAL, FOUR, NO_DOCUMENTS, e -> x -> x.insert(3, 1, e, 0, 2));
        insertRanges();
        insertPlaces();
        insertTooLong();
        insertReasons();
    }

    private void insertRanges() {
        boundary("7", "index out of bounds: the range is not in the text");
        Scene s = Scene.of(FIVE, "xyz", "");
        becomesRanges("into another", s, 5, (from, to) -> x -> x.insert(1, 1, 0, from, to), (from, to) -> 3 + to - from,
                (from, to) -> s.withText(1, into("xyz", 1, FIVE.substring(from, to))));
        becomesRanges("into itself", s, 5, (from, to) -> x -> x.insert(0, 2, 0, from, to), (from, to) -> 5 + to - from,
                (from, to) -> s.withText(0, into(FIVE, 2, FIVE.substring(from, to))));
        becomesRanges("of no bytes", s, 0, (from, to) -> x -> x.insert(0, 5, 2, from, to), (from, to) -> 5,
                (from, to) -> s);
        becomesRanges("of 1000 bytes", USUAL, 1000, (from, to) -> x -> x.insert(2, 0, 3, from, to),
                (from, to) -> to - from,
                (from, to) -> USUAL.withText(2, FULL.substring(from, to)));
        becomes("a range of e that is longer than d", s, 8, x -> x.insert(1, 3, 0, 0, 5), s.withText(1, "xyz" + FIVE));
        refuses("a range that is in the text of d alone", BOUNDS, s, x -> x.insert(0, 0, 1, 0, 4));
    }

    private void insertPlaces() {
        boundary("7", "index out of bounds: at is not from 0 to the length of d's text");
        becomesEach("at", USUAL, new int[] {0, 1, 4, 5}, at -> x -> x.insert(0, at, 1, 0, 2), at -> 7,
                at -> USUAL.withText(0, into(FIVE, at, "xy")));
        refusesEach("at", BOUNDS, USUAL, new int[] {-1, 6, MIN, MAX}, at -> x -> x.insert(0, at, 1, 0, 2));
        refusesEach("a range without bytes, at", BOUNDS, USUAL, new int[] {-1, 6, MIN, MAX},
                at -> x -> x.insert(0, at, 1, 0, 0));
        refusesEach("itself, at", BOUNDS, USUAL, new int[] {-1, 6, 10, MIN, MAX}, at -> x -> x.insert(0, at, 0, 0, 5));
        refuses("a place of e alone", BOUNDS, USUAL, x -> x.insert(1, 4, 0, 0, 1));
        becomes("into a text without bytes", USUAL, 3, x -> x.insert(2, 0, 1, 0, 3), USUAL.withText(2, "xyz"));
        refusesEach("into a text without bytes, at", BOUNDS, USUAL, new int[] {-1, 1},
                at -> x -> x.insert(2, at, 1, 0, 3));
        answersEach("no bytes into a full text, at", USUAL, new int[] {0, 1000}, at -> x -> x.insert(3, at, 1, 3, 3),
                at -> 1000);
        refusesEach("no bytes into a full text, at", BOUNDS, USUAL, new int[] {-1, 1001},
                at -> x -> x.insert(3, at, 1, 3, 3));
    }

    private void insertTooLong() {
        boundary("7", "unsupported operation: the length would be above 1000");
        String nearly = Scene.letters(997);
        Scene s = Scene.of(nearly, "wxyz", Scene.letters(500), Scene.letters(501));
        int[] places = {0, 400, 997};
        becomesEach("to 1000, at", s, places, at -> x -> x.insert(0, at, 1, 1, 4), at -> 1000,
                at -> s.withText(0, into(nearly, at, "xyz")));
        refusesEach("to 1001, at", UNSUPPORTED, s, places, at -> x -> x.insert(0, at, 1, 0, 4));
        String half = Scene.letters(500);
        becomesEach("500 into itself, at", s, new int[] {0, 123, 500}, at -> x -> x.insert(2, at, 2, 0, 500),
                at -> 1000,
                at -> s.withText(2, into(half, at, half)));
        becomes("499 of 501 into itself", s, 1000, x -> x.insert(3, 7, 3, 1, 500),
                s.withText(3, into(s.text(3), 7, s.text(3).substring(1, 500))));
        refuses("500 of 501 into itself", UNSUPPORTED, s, x -> x.insert(3, 7, 3, 1, 501));
        refuses("501 into itself", UNSUPPORTED, s, x -> x.insert(3, 0, 3, 0, 501));
        becomes("1000 into no bytes", USUAL, 1000, x -> x.insert(2, 0, 3, 0, 1000), USUAL.withText(2, FULL));
        refuses("1000 into itself", UNSUPPORTED, USUAL, x -> x.insert(3, 0, 3, 0, 1000));
        refuses("1 into a full text", UNSUPPORTED, USUAL, x -> x.insert(3, 1000, 1, 2, 3));
        answers("none into a full text", USUAL, 1000, x -> x.insert(3, 1000, 1, 3, 3));
    }

    private void insertReasons() {
        sentence("7", "illegal argument before index out of bounds before unsupported operation");
        for (int wrong : NO_DOCUMENTS) {
            refuses("range and d " + wrong, ILLEGAL, USUAL, x -> x.insert(wrong, 0, 1, 0, 4));
            refuses("range and e " + wrong, ILLEGAL, USUAL, x -> x.insert(0, 0, wrong, 2, 1));
            refuses("place and d " + wrong, ILLEGAL, USUAL, x -> x.insert(wrong, -1, 1, 0, 3));
            refuses("place and e " + wrong, ILLEGAL, USUAL, x -> x.insert(0, 6, wrong, 0, 3));
            refuses("room and d " + wrong, ILLEGAL, USUAL, x -> x.insert(wrong, 0, 3, 0, 1000));
            refuses("room and e " + wrong, ILLEGAL, USUAL, x -> x.insert(3, 0, wrong, 0, 1000));
            refuses("all and d " + wrong, ILLEGAL, USUAL, x -> x.insert(wrong, 1001, 3, 0, 1001));
        }
        refusesRanges("no range of e, and no room", BOUNDS, USUAL, 5, (from, to) -> x -> x.insert(3, 0, 0, from, to));
        refusesEach("no place of d, and no room, at", BOUNDS, USUAL, new int[] {-1, 1001, MIN, MAX},
                at -> x -> x.insert(3, at, 0, 0, 5));
        refuses("no range, no place and no room", BOUNDS, USUAL, x -> x.insert(3, 1001, 0, 0, 6));
        refuses("no room alone", UNSUPPORTED, USUAL, x -> x.insert(3, 1000, 0, 0, 5));
    }

    private void delete() {
        boundary("8", "Illegal argument: a document is not 0 .. 3");
        becomesEach("d", FOUR, DOCUMENTS, d -> x -> x.delete(d, 1, 2), d -> FOUR.text(d).length() - 1,
                d -> FOUR.withText(d, without(FOUR.text(d), 1, 2)));
        refusesEach("d", ILLEGAL, FOUR, NO_DOCUMENTS, d -> x -> x.delete(d, 1, 2));

        boundary("8", "index out of bounds: it is not in the text");
        for (int document : new int[] {0, 1, 2, 3}) {
            int d = document;
            String text = USUAL.text(d);
            becomesRanges("of " + d, USUAL, text.length(), (from, to) -> x -> x.delete(d, from, to),
                    (from, to) -> text.length() - (to - from), (from, to) -> USUAL
                    .withText(d, without(text, from, to)));
        }

        sentence("8", "illegal argument before index out of bounds");
        for (int wrong : NO_DOCUMENTS) {
            refusesRanges("d " + wrong, ILLEGAL, USUAL, 5, (from, to) -> x -> x.delete(wrong, from, to));
        }
    }

    private void move() {
        boundary("9", "Illegal argument: a document is not 0 .. 3");
        becomesEach("d", FOUR, DOCUMENTS, d -> x -> x.move(d, 0, 1, 1), d -> FOUR.text(d).length(),
                d -> FOUR.withText(d, into(FOUR.text(d).substring(1), 1, FOUR.text(d).substring(0, 1))));
        refusesEach("d", ILLEGAL, FOUR, NO_DOCUMENTS, d -> x -> x.move(d, 0, 1, 1));

        boundary("9", "index out of bounds: it is not in the text");
        for (int document : new int[] {0, 2, 3}) {
            int d = document;
            String text = USUAL.text(d);
            becomesRanges("to the front", USUAL, text.length(), (from, to) -> x -> x.move(d, from, to, 0),
                    (from, to) -> text.length(), (from, to) -> USUAL
                    .withText(d, text.substring(from, to) + without(text, from, to)));
        }
        movePlaces();

        sentence("9", "illegal argument before index out of bounds");
        for (int wrong : NO_DOCUMENTS) {
            refusesRanges("d " + wrong, ILLEGAL, USUAL, 5, (from, to) -> x -> x.move(wrong, from, to, 0));
            refuses("no place, d " + wrong, ILLEGAL, USUAL, x -> x.move(wrong, 0, 1, -1));
            refuses("no place and no range, d " + wrong, ILLEGAL, USUAL, x -> x.move(wrong, 0, 6, 6));
        }
    }

    private void movePlaces() {
        boundary("9", "index out of bounds: at is not from 0 to the length of the rest");
        for (int from = 0; from <= 5; from++) {
            for (int to = from; to <= 5; to++) {
                movePlaces(from, to);
            }
        }
        String rest = FULL.substring(0, 999);
        becomesEach("the last of 1000, at", USUAL, new int[] {0, 500, 999}, at -> x -> x.move(3, 999, 1000, at),
                at -> 1000,
                at -> USUAL.withText(3, into(rest, at, "h")));
        refusesEach("the last of 1000, at", BOUNDS, USUAL, new int[] {-1, 1000}, at -> x -> x.move(3, 999, 1000, at));
        answers("all of 1000", USUAL, 1000, x -> x.move(3, 0, 1000, 0));
        refusesEach("all of 1000, at", BOUNDS, USUAL, new int[] {-1, 1, 1000}, at -> x -> x.move(3, 0, 1000, at));
        answers("none of none", USUAL, 0, x -> x.move(2, 0, 0, 0));
        refusesEach("none of none, at", BOUNDS, USUAL, new int[] {-1, 1}, at -> x -> x.move(2, 0, 0, at));
    }

    /** Each place of the rest, and those before and behind it. */
    private void movePlaces(int from, int to) {
        String what = from + " .. " + to + ", at";
        String rest = without(FIVE, from, to);
        int[] places = new int[rest.length() + 1];
        for (int at = 0; at < places.length; at++) {
            places[at] = at;
        }
        becomesEach(what, USUAL, places, at -> x -> x.move(0, from, to, at), at -> 5,
                at -> USUAL.withText(0, into(rest, at, FIVE.substring(from, to))));
        refusesEach(what, BOUNDS, USUAL, new int[] {-1, rest.length() + 1, 6, MIN, MAX},
                at -> x -> x.move(0, from, to, at));
    }

    private void repeat() {
        boundary("10", "Illegal argument: a document is not 0 .. 3");
        becomesEach("d", FOUR, DOCUMENTS, d -> x -> x.repeat(d, 0, 2, 2), d -> FOUR.text(d).length() + 2,
                d -> FOUR.withText(d, into(FOUR.text(d), 0, FOUR.text(d).substring(0, 2))));
        refusesEach("d", ILLEGAL, FOUR, NO_DOCUMENTS, d -> x -> x.repeat(d, 0, 2, 2));
        repeatTimes();
        repeatRanges();
        repeatTooLong();
        repeatProducts();
        repeatReasons();
    }

    private void repeatTimes() {
        boundary("10", "Illegal argument: also if n is below 0");
        int[] times = {0, 1, 2, 3};
        becomesEach("a part, n", USUAL, times, n -> x -> x.repeat(0, 1, 3, n), n -> 3 + 2 * n,
                n -> USUAL.withText(0, "a" + "bc".repeat(n) + "ab"));
        becomesEach("the whole, n", USUAL, times, n -> x -> x.repeat(0, 0, 5, n), n -> 5 * n,
                n -> USUAL.withText(0, FIVE.repeat(n)));
        answersEach("no bytes, n", USUAL, new int[] {0, 1, 2, 1000, 1001, MAX}, n -> x -> x.repeat(0, 2, 2, n), n -> 5);
        answersEach("no bytes of none, n", USUAL, new int[] {0, 1, MAX}, n -> x -> x.repeat(2, 0, 0, n), n -> 0);
        answersEach("no bytes of a full text, n", USUAL, new int[] {0, 1, MAX}, n -> x -> x.repeat(3, 1000, 1000, n),
                n -> 1000);
        int[] below = {-1, -2, MIN};
        refusesEach("a part, n", ILLEGAL, USUAL, below, n -> x -> x.repeat(0, 1, 3, n));
        refusesEach("no bytes, n", ILLEGAL, USUAL, below, n -> x -> x.repeat(0, 2, 2, n));
        refusesEach("no bytes of none, n", ILLEGAL, USUAL, below, n -> x -> x.repeat(2, 0, 0, n));
    }

    private void repeatRanges() {
        boundary("10", "index out of bounds: it is not in the text");
        becomesRanges("twice", USUAL, 5, (from, to) -> x -> x.repeat(0, from, to, 2), (from, to) -> 5 + to - from,
                (from, to) -> USUAL.withText(0, into(FIVE, from, FIVE.substring(from, to))));
        becomesRanges("once", USUAL, 1000, (from, to) -> x -> x.repeat(3, from, to, 1), (from, to) -> 1000,
                (from, to) -> USUAL);
        becomesRanges("not at all", USUAL, 1000, (from, to) -> x -> x.repeat(3, from, to, 0),
                (from, to) -> 1000 - (to - from),
                (from, to) -> USUAL.withText(3, without(FULL, from, to)));
        becomesRanges("of none", USUAL, 0, (from, to) -> x -> x.repeat(2, from, to, 3), (from, to) -> 0,
                (from, to) -> USUAL);
    }

    private void repeatTooLong() {
        boundary("10", "unsupported operation: the length would be above 1000");
        becomes("five bytes 200 times", USUAL, 1000, x -> x.repeat(0, 0, 5, 200), USUAL.withText(0, FIVE.repeat(200)));
        refuses("five bytes 201 times", UNSUPPORTED, USUAL, x -> x.repeat(0, 0, 5, 201));
        becomes("one byte to 1000", USUAL, 1000, x -> x.repeat(0, 2, 3, 996),
                USUAL.withText(0, "ab" + "c".repeat(996) + "ab"));
        refuses("one byte to 1001", UNSUPPORTED, USUAL, x -> x.repeat(0, 2, 3, 997));
        becomes("two bytes to 999", USUAL, 999, x -> x.repeat(0, 3, 5, 498),
                USUAL.withText(0, "abc" + "ab".repeat(498)));
        refuses("two bytes to 1001", UNSUPPORTED, USUAL, x -> x.repeat(0, 3, 5, 499));
        answers("a full text once", USUAL, 1000, x -> x.repeat(3, 0, 1000, 1));
        refuses("a full text twice", UNSUPPORTED, USUAL, x -> x.repeat(3, 0, 1000, 2));
        becomes("a full text not at all", USUAL, 0, x -> x.repeat(3, 0, 1000, 0), USUAL.withText(3, ""));
        answers("one byte of a full text once", USUAL, 1000, x -> x.repeat(3, 999, 1000, 1));
        refuses("one byte of a full text twice", UNSUPPORTED, USUAL, x -> x.repeat(3, 999, 1000, 2));
        answers("no bytes of a full text twice", USUAL, 1000, x -> x.repeat(3, 999, 999, 2));
        Scene half = Scene.of(Scene.letters(500), Scene.letters(501));
        becomes("500 twice", half, 1000, x -> x.repeat(0, 0, 500, 2), half.withText(0, Scene.letters(500).repeat(2)));
        refuses("501 twice", UNSUPPORTED, half, x -> x.repeat(1, 0, 501, 2));
    }

    /** The length that would be comes back below 1000, or below 0, where it is reckoned with 32 bits. */
    private void repeatProducts() {
        sentence("10", "unsupported operation: the length would be above 1000, however far");
        Scene s = Scene.of("abcdefgh", FIVE, "", FULL);
        refusesEach("one byte, n", UNSUPPORTED, s, new int[] {1 << 30, MAX - 8, MAX - 7, MAX - 1, MAX},
                n -> x -> x.repeat(0, 0, 1, n));
        refusesEach("two bytes, n", UNSUPPORTED, s, new int[] {1 << 30, MAX}, n -> x -> x.repeat(0, 0, 2, n));
        refusesEach("three bytes, n", UNSUPPORTED, s, new int[] {1431655765, 1431655766, MAX},
                n -> x -> x.repeat(0, 0, 3, n));
        refusesEach("four bytes, n", UNSUPPORTED, s, new int[] {1 << 30, (1 << 30) + 1, MAX},
                n -> x -> x.repeat(0, 0, 4, n));
        refusesEach("five bytes, n", UNSUPPORTED, s, new int[] {858993459, 858993460, MAX},
                n -> x -> x.repeat(1, 0, 5, n));
        refusesEach("eight bytes, n", UNSUPPORTED, s, new int[] {1 << 29, (1 << 29) + 1, MAX},
                n -> x -> x.repeat(0, 0, 8, n));
        refusesEach("1000 bytes, n", UNSUPPORTED, s, new int[] {2, 1 << 29, 1 << 30, MAX},
                n -> x -> x.repeat(3, 0, 1000, n));
    }

    private void repeatReasons() {
        sentence("10", "illegal argument before index out of bounds before unsupported operation");
        for (int n : new int[] {-1, MIN}) {
            refusesRanges("n " + n, ILLEGAL, USUAL, 5, (from, to) -> x -> x.repeat(0, from, to, n));
        }
        for (int wrong : NO_DOCUMENTS) {
            refuses("range and d " + wrong, ILLEGAL, USUAL, x -> x.repeat(wrong, 0, 6, 1));
            refuses("room and d " + wrong, ILLEGAL, USUAL, x -> x.repeat(wrong, 0, 1000, 2));
            refuses("range, room and d " + wrong, ILLEGAL, USUAL, x -> x.repeat(wrong, 0, 1001, MAX));
            refuses("n and d " + wrong, ILLEGAL, USUAL, x -> x.repeat(wrong, 0, 1, -1));
        }
        refusesRanges("no room", BOUNDS, USUAL, 1000, (from, to) -> x -> x.repeat(3, from, to, 2));
        refusesRanges("far too long", BOUNDS, USUAL, 5, (from, to) -> x -> x.repeat(0, from, to, MAX));
        refuses("no room alone", UNSUPPORTED, USUAL, x -> x.repeat(3, 0, 1, 2));
    }
}
