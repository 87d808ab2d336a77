import java.util.function.IntFunction;

/** The boundary cases of the promises 11 to 21: the calls that compare, name and search texts, and the automaton. */
public final class AnswersEdgesTest extends Edges {
    private static final String FIVE = "abcab";
    private static final String FULL = Scene.letters(1000);
    private static final int NONE = PairedTexts.NONE;

    /** Texts of five, three, no and a thousand bytes; the pattern is ab. */
    private static final Scene USUAL = Scene.of(FIVE, "xab", "", FULL);
    private static final Scene FOUR = Scene.of("abcd", "ab", "bab", "aabab");

    public static void main(String[] args) {
        new AnswersEdgesTest().test();
    }

    private void test() {
        same();
        prefix();
        order();
        name();
        pattern();
        count();
        find();
        lead();
        accept();
        run();
        accepted();
        end();
    }

    private void same() {
        boundary("11", "Illegal argument: a document is not 0 .. 3");
        answersEach("d", FOUR, DOCUMENTS, d -> x -> x.same(d, 0, 1, 0, 2), d -> d < 2);
        answersEach("e", FOUR, DOCUMENTS, e -> x -> x.same(1, 0, e, 0, 2), e -> e < 2);
        refusesEach("d", ILLEGAL, FOUR, NO_DOCUMENTS, d -> x -> x.same(d, 0, 1, 0, 2));
        refusesEach("e", ILLEGAL, FOUR, NO_DOCUMENTS, e -> x -> x.same(1, 0, e, 0, 2));
        sameBytes();
        sameSizes();
        sameRanges();
        sameSums();
        sameReasons();
    }

    private void sameBytes() {
        sentence("11", "Whether the n bytes from place i on in the text of d are the same as those from place j on");
        Scene s = Scene.of("pabcq", "rabcs", "pabcq");
        answers("the bytes before and behind do not count", s, true, x -> x.same(0, 1, 1, 1, 3));
        answers("the byte behind", s, false, x -> x.same(0, 1, 1, 1, 4));
        answers("the byte before", s, false, x -> x.same(0, 0, 1, 0, 4));
        answers("whole texts", s, true, x -> x.same(0, 0, 2, 0, 5));
        answers("at other places", s, false, x -> x.same(0, 1, 1, 2, 1));
        answers("a text and itself, overlapping", Scene.of("aaaa"), true, x -> x.same(0, 0, 0, 1, 3));
        answers("full texts", Scene.of(FULL, FULL), true, x -> x.same(0, 0, 1, 0, 1000));
        answers("full texts but for the last byte", Scene.of("a".repeat(1000), "a".repeat(999) + "b"), false,
                x -> x.same(0, 0, 1, 0, 1000));
        answers("bytes 127, 128 and 255", Scene.of("\177\200\377", "\177\200\377"), true, x -> x.same(0, 0, 1, 0, 3));
    }

    private void sameSizes() {
        boundary("11", "Illegal argument: also if n is below 0");
        answers("n 0", USUAL, true, x -> x.same(0, 0, 1, 0, 0));
        answers("n 1", USUAL, false, x -> x.same(0, 0, 1, 0, 1));
        answers("n 0 at both ends", USUAL, true, x -> x.same(0, 5, 1, 3, 0));
        answers("n 0 in texts without bytes", USUAL, true, x -> x.same(2, 0, 2, 0, 0));
        refusesEach("n", ILLEGAL, USUAL, new int[] {-1, -2, MIN}, n -> x -> x.same(0, 2, 1, 2, n));
        refusesEach("texts without bytes, n", ILLEGAL, USUAL, new int[] {-1, MIN}, n -> x -> x.same(2, 0, 2, 0, n));
    }

    private void sameRanges() {
        boundary("11",
                "index out of bounds: the range i .. i + n is not in the text of d, or j .. j + n not in that of e");
        Scene s = Scene.of(FIVE, "abcabc", "");
        answers("to the end of the first", s, true, x -> x.same(0, 0, 1, 0, 5));
        refuses("beyond the end of the first", BOUNDS, s, x -> x.same(0, 0, 1, 0, 6));
        answers("to the end of the second", s, true, x -> x.same(1, 0, 0, 0, 5));
        refuses("beyond the end of the second", BOUNDS, s, x -> x.same(1, 0, 0, 0, 6));
        answers("the last byte of the first", s, true, x -> x.same(0, 4, 1, 4, 1));
        refusesEach("one byte, i", BOUNDS, s, new int[] {-1, 5, 6, MIN, MAX}, i -> x -> x.same(0, i, 1, 0, 1));
        answers("the last byte of the second", s, false, x -> x.same(0, 0, 1, 5, 1));
        refusesEach("one byte, j", BOUNDS, s, new int[] {-1, 6, 7, MIN, MAX}, j -> x -> x.same(0, 0, 1, j, 1));
        answersEach("no byte, i", s, new int[] {0, 5}, i -> x -> x.same(0, i, 1, 0, 0), i -> true);
        refusesEach("no byte, i", BOUNDS, s, new int[] {-1, 6, MIN, MAX}, i -> x -> x.same(0, i, 1, 0, 0));
        answersEach("no byte, j", s, new int[] {0, 6}, j -> x -> x.same(0, 0, 1, j, 0), j -> true);
        refusesEach("no byte, j", BOUNDS, s, new int[] {-1, 7, MIN, MAX}, j -> x -> x.same(0, 0, 1, j, 0));
        refuses("one byte of none", BOUNDS, s, x -> x.same(2, 0, 2, 0, 1));
        refuses("below 0 up to 0", BOUNDS, s, x -> x.same(0, -5, 1, 0, 5));
        refuses("the second below 0 up to 0", BOUNDS, s, x -> x.same(0, 0, 1, -5, 5));
        refuses("both ranges", BOUNDS, s, x -> x.same(0, 1, 1, 2, 5));
        refuses("bytes that differ before the end", BOUNDS, s, x -> x.same(0, 1, 1, 0, 5));
        Scene full = Scene.of(FULL, FULL);
        answers("to the end of a full text", full, true, x -> x.same(0, 8, 1, 0, 992));
        refuses("beyond the end of a full text", BOUNDS, full, x -> x.same(0, 8, 1, 0, 993));
    }

    private void sameSums() {
        sentence("11", "index out of bounds: i + n is above every int");
        for (int i : new int[] {1, 5, MAX}) {
            refuses("both, i " + i, BOUNDS, USUAL, x -> x.same(0, i, 0, i, MAX));
            refuses("the first, i " + i, BOUNDS, USUAL, x -> x.same(0, i, 0, 0, MAX));
            refuses("the second, j " + i, BOUNDS, USUAL, x -> x.same(0, 0, 0, i, MAX));
        }
        refuses("by one", BOUNDS, USUAL, x -> x.same(0, MAX, 0, MAX, 1));
        refuses("not quite", BOUNDS, USUAL, x -> x.same(0, MAX, 0, MAX, 0));
        refuses("from the least on", BOUNDS, USUAL, x -> x.same(0, MIN, 0, MIN, MAX));
        refuses("n alone", BOUNDS, USUAL, x -> x.same(0, 0, 0, 0, MAX));
    }

    private void sameReasons() {
        sentence("11", "illegal argument before index out of bounds");
        for (int wrong : NO_DOCUMENTS) {
            refuses("no range of e, d " + wrong, ILLEGAL, USUAL, x -> x.same(wrong, 0, 1, 4, 0));
            refuses("no range of d, e " + wrong, ILLEGAL, USUAL, x -> x.same(0, 6, wrong, 0, 0));
            refuses("no place of it, d " + wrong, ILLEGAL, USUAL, x -> x.same(wrong, -1, 1, 0, 0));
            refuses("no place of it, e " + wrong, ILLEGAL, USUAL, x -> x.same(0, 0, wrong, -1, 0));
        }
        for (int n : new int[] {-1, MIN}) {
            refuses("no place of d, n " + n, ILLEGAL, USUAL, x -> x.same(0, -1, 1, 0, n));
            refuses("no place above of d, n " + n, ILLEGAL, USUAL, x -> x.same(0, MAX, 1, 0, n));
            refuses("no place of e, n " + n, ILLEGAL, USUAL, x -> x.same(0, 0, 1, -1, n));
            refuses("no place above of e, n " + n, ILLEGAL, USUAL, x -> x.same(0, 0, 1, MAX, n));
        }
    }

    private interface OfPieces {
        Object ask(PairedTexts x, int d, int i, int e, int j);
    }

    /** What prefix and order refuse alike, and in which order. */
    private void noPieces(String promise, OfPieces call) {
        boundary(promise, "index out of bounds: there is no such piece");
        answersEach("no bytes at the end, d", USUAL, DOCUMENTS,
                d -> x -> call.ask(x, d, USUAL.text(d).length(), d, USUAL.text(d).length()), d -> 0);
        for (int d : DOCUMENTS) {
            int[] none = {-1, USUAL.text(d).length() + 1, MIN, MAX};
            refusesEach("of " + d + ", i", BOUNDS, USUAL, none, i -> x -> call.ask(x, d, i, 2, 0));
            refusesEach("of " + d + ", j", BOUNDS, USUAL, none, j -> x -> call.ask(x, 2, 0, d, j));
            refusesEach("of " + d + ", i and j", BOUNDS, USUAL, none, j -> x -> call.ask(x, d, j, d, j));
        }
        refuses("a piece of e alone", BOUNDS, USUAL, x -> call.ask(x, 1, 4, 0, 0));
        refuses("a piece of d alone", BOUNDS, USUAL, x -> call.ask(x, 0, 0, 1, 4));
        answers("i is above the length of e", USUAL, 0, x -> call.ask(x, 0, 5, 2, 0));
        answers("j is above the length of d", USUAL, 0, x -> call.ask(x, 2, 0, 0, 5));
        sentence(promise, "illegal argument before index out of bounds");
        for (int wrong : NO_DOCUMENTS) {
            refuses("no piece of it, d " + wrong, ILLEGAL, USUAL, x -> call.ask(x, wrong, -1, 1, 0));
            refuses("no piece of e, d " + wrong, ILLEGAL, USUAL, x -> call.ask(x, wrong, 0, 1, 4));
            refuses("no piece of d, e " + wrong, ILLEGAL, USUAL, x -> call.ask(x, 0, 6, wrong, 0));
            refuses("no piece of it, e " + wrong, ILLEGAL, USUAL, x -> call.ask(x, 0, 0, wrong, -1));
        }
    }

    private void prefix() {
        boundary("12", "Illegal argument: a document is not 0 .. 3");
        int[] common = {2, 2, 0, 1};
        answersEach("d", FOUR, DOCUMENTS, d -> x -> x.prefix(d, 0, 1, 0), d -> common[d]);
        answersEach("e", FOUR, DOCUMENTS, e -> x -> x.prefix(1, 0, e, 0), e -> common[e]);
        refusesEach("d", ILLEGAL, FOUR, NO_DOCUMENTS, d -> x -> x.prefix(d, 0, 1, 0));
        refusesEach("e", ILLEGAL, FOUR, NO_DOCUMENTS, e -> x -> x.prefix(1, 0, e, 0));
        noPieces("12", (x, d, i, e, j) -> x.prefix(d, i, e, j));

        sentence("12", "How many bytes the longest common beginning of the pieces has");
        answers("none of them has a byte", USUAL, 0, x -> x.prefix(2, 0, 0, 5));
        answers("the first has no byte", USUAL, 0, x -> x.prefix(2, 0, 0, 0));
        answers("the second has no byte", USUAL, 0, x -> x.prefix(0, 0, 0, 5));
        answers("the first byte differs", USUAL, 0, x -> x.prefix(0, 0, 1, 0));
        answers("up to the end of the second", USUAL, 2, x -> x.prefix(0, 0, 1, 1));
        answers("up to the end of the first", USUAL, 2, x -> x.prefix(1, 1, 0, 0));
        answers("up to the ends of both", USUAL, 2, x -> x.prefix(0, 3, 1, 1));
        answers("a text and its own end", USUAL, 2, x -> x.prefix(0, 0, 0, 3));
        answers("a full text", USUAL, 1000, x -> x.prefix(3, 0, 3, 0));
        answers("a full text and its own end", USUAL, 992, x -> x.prefix(3, 0, 3, 8));
        answers("the last byte of a full text", USUAL, 1, x -> x.prefix(3, 999, 3, 999));
        answers("all but the last byte", Scene.of("a".repeat(999) + "b", "a".repeat(1000)), 999,
                x -> x.prefix(0, 0, 1, 0));
        answers("bytes 0", Scene.of("\0\0", "\0\0\0"), 2, x -> x.prefix(0, 0, 1, 0));
    }

    private void order() {
        boundary("13", "Illegal argument: a document is not 0 .. 3");
        int[] ordered = {1, 0, 1, -1};
        answersEach("d", FOUR, DOCUMENTS, d -> x -> x.order(d, 0, 1, 0), d -> ordered[d]);
        answersEach("e", FOUR, DOCUMENTS, e -> x -> x.order(1, 0, e, 0), e -> -ordered[e]);
        refusesEach("d", ILLEGAL, FOUR, NO_DOCUMENTS, d -> x -> x.order(d, 0, 1, 0));
        refusesEach("e", ILLEGAL, FOUR, NO_DOCUMENTS, e -> x -> x.order(1, 0, e, 0));
        noPieces("13", (x, d, i, e, j) -> x.order(d, i, e, j));

        sentence("13", "0 if the pieces at i of d and at j of e are the same");
        ordered("no bytes", USUAL, 0, 2, 0, 0, 5);
        ordered("one and the same piece", USUAL, 0, 0, 0, 0, 0);
        ordered("pieces of two texts", USUAL, 0, 0, 3, 1, 1);
        ordered("full texts", Scene.of(FULL, FULL), 0, 0, 0, 1, 0);
        sentence("13", "-1 if the first one is a beginning of the second one; else 1");
        ordered("no bytes and one", USUAL, -1, 2, 0, 0, 4);
        ordered("no bytes and a byte 0", Scene.of("", "\0"), -1, 0, 0, 1, 0);
        ordered("two bytes and five", USUAL, -1, 1, 1, 0, 0);
        ordered("an end of a text and the text", USUAL, -1, 0, 3, 0, 0);
        ordered("999 bytes and 1000", Scene.of(Scene.letters(999), FULL), -1, 0, 0, 1, 0);
        sentence("13", "-1 if the first one has the lesser byte where they first differ; else 1");
        ordered("bytes 0 and 255", Scene.of("\0", "\377"), -1, 0, 0, 1, 0);
        ordered("bytes 127 and 128", Scene.of("\177", "\200"), -1, 0, 0, 1, 0);
        ordered("bytes 254 and 255", Scene.of("\376", "\377"), -1, 0, 0, 1, 0);
        ordered("the shorter piece has the greater byte", Scene.of("aaaa", "b"), -1, 0, 0, 1, 0);
        ordered("greater bytes behind it", Scene.of("azz", "baa"), -1, 0, 0, 1, 0);
        ordered("at other places", Scene.of("xxab", "ac"), -1, 0, 2, 1, 0);
        ordered("at other places, the greater one", Scene.of("aaxc", "xb"), 1, 0, 2, 1, 0);
        ordered("the last byte", Scene.of("a".repeat(1000), "a".repeat(999) + "b"), -1, 0, 0, 1, 0);
    }

    private void ordered(String what, Scene scene, int want, int d, int i, int e, int j) {
        answers(what, scene, want, x -> x.order(d, i, e, j));
        answers(what + ", the other way round", scene, -want, x -> x.order(e, j, d, i));
    }

    private void name() {
        boundary("14", "Illegal argument: a document is not 0 .. 3");
        answersEach("d", FOUR, DOCUMENTS, d -> x -> x.name(d, 1, 2), d -> d == 2 || d == 3 ? 98L : 99L);
        refusesEach("d", ILLEGAL, FOUR, NO_DOCUMENTS, d -> x -> x.name(d, 1, 2));

        boundary("14", "index out of bounds: it is not in the text");
        for (int d : DOCUMENTS) {
            String text = USUAL.text(d);
            answersRanges("of " + d, USUAL, text.length(), (from, to) -> x -> x.name(d, from, to),
                    (from, to) -> nameOf(text.substring(from, to)));
        }

        sentence("14", "illegal argument before index out of bounds");
        for (int wrong : NO_DOCUMENTS) {
            refusesRanges("d " + wrong, ILLEGAL, USUAL, 5, (from, to) -> x -> x.name(wrong, from, to));
        }
    }

    private void pattern() {
        sentence("15",
                "The pattern is the n lowest bytes of these sixteen: those of low, and behind them those of high");
        String sixteen = "\210\167\146\125\104\063\042\021\360\337\316\275\254\233\212\171";
        for (int n = 1; n <= 16; n++) {
            int size = n;
            becomes("n " + n, USUAL, "done", doing(x -> x.pattern(0x1122334455667788L, 0x798a9bacbdcedff0L, size)),
                    USUAL.withPattern(sixteen.substring(0, n)));
        }
        becomes("numbers below 0", USUAL, "done", doing(x -> x.pattern(-1L, Long.MIN_VALUE, 16)),
                USUAL.withPattern("\377".repeat(8) + "\0".repeat(7) + "\200"));
        becomes("bytes 0", USUAL, "done", doing(x -> x.pattern(0L, 0L, 16)), USUAL.withPattern("\0".repeat(16)));

        boundary("15", "Illegal argument: n is not 1 .. 16");
        Scene none = USUAL.withoutPattern();
        Scene longest = USUAL.withPattern("abcdefghijklmnop");
        int[] wrong = {0, 17, -1, MIN, MAX};
        becomes("n 1", longest, "done", doing(x -> x.pattern('z', 'y', 1)), longest.withPattern("z"));
        becomes("n 8", longest, "done", doing(x -> x.pattern('z', 'y', 8)), longest.withPattern("z\0\0\0\0\0\0\0"));
        becomes("n 9", longest, "done", doing(x -> x.pattern('z', 'y', 9)), longest.withPattern("z\0\0\0\0\0\0\0y"));
        becomes("n 16", none, "done", doing(x -> x.pattern('z', 'y', 16)),
                none.withPattern("z\0\0\0\0\0\0\0y\0\0\0\0\0\0\0"));
        refusesEach("a short one stays, n", ILLEGAL, USUAL, wrong, n -> doing(x -> x.pattern(-1L, -1L, n)));
        refusesEach("a long one stays, n", ILLEGAL, longest, wrong, n -> doing(x -> x.pattern(-1L, -1L, n)));
        refusesEach("there is still none, n", ILLEGAL, none, wrong, n -> doing(x -> x.pattern(-1L, -1L, n)));
    }

    private void count() {
        boundary("16", "Illegal argument: a document is not 0 .. 3");
        int[] places = {1, 1, 1, 2};
        answersEach("d", FOUR, DOCUMENTS, d -> x -> x.count(d, 0, FOUR.text(d).length()), d -> places[d]);
        refusesEach("d", ILLEGAL, FOUR, NO_DOCUMENTS, d -> x -> x.count(d, 0, 0));

        boundary("16", "index out of bounds: the range is not in the text");
        for (int d : DOCUMENTS) {
            String text = USUAL.text(d);
            answersRanges("of " + d, USUAL, text.length(), (from, to) -> x -> x.count(d, from, to),
                    (from, to) -> placesOf("ab", text.substring(from, to)));
        }
        countPlaces();

        boundary("16", "illegal state: there is no pattern");
        Scene none = USUAL.withoutPattern();
        answers("there is one", USUAL, 2, x -> x.count(0, 0, 5));
        refuses("there is none", STATE, none, x -> x.count(0, 0, 5));
        refuses("there is none, nor a byte", STATE, none, x -> x.count(0, 5, 5));
        refusesEach("there is none, no bytes of", STATE, none, DOCUMENTS, d -> x -> x.count(d, 0, 0));
        answers("there is one, nor a byte", USUAL, 0, x -> x.count(0, 5, 5));

        sentence("16", "illegal argument before index out of bounds before illegal state");
        refusesEach("no pattern, d", ILLEGAL, none, NO_DOCUMENTS, d -> x -> x.count(d, 0, 0));
        for (int wrong : NO_DOCUMENTS) {
            refusesRanges("no pattern, no range, d " + wrong, ILLEGAL, none, 5,
                    (from, to) -> x -> x.count(wrong, from, to));
            refuses("a pattern, no range, d " + wrong, ILLEGAL, USUAL, x -> x.count(wrong, 0, 1001));
        }
        refusesRanges("no pattern, no range", BOUNDS, none, 5, (from, to) -> x -> x.count(0, from, to));
        refusesRanges("no pattern, no range of none", BOUNDS, none, 0, (from, to) -> x -> x.count(2, from, to));
    }

    private void countPlaces() {
        sentence("16", "At how many places of a range the pattern stands.");
        Scene ten = Scene.of("abcdefghij", "", "", FULL);
        for (int n = 1; n <= 10; n++) {
            Scene s = ten.withPattern("abcdefghij".substring(10 - n));
            int from = 10 - n;
            answers("at the end, " + n + " bytes", s, 1, x -> x.count(0, from, 10));
            answers("at the end, the whole text, " + n + " bytes", s, 1, x -> x.count(0, 0, 10));
            answers("less its last byte, " + n + " bytes", s, 0, x -> x.count(0, 0, 9));
            answers("less its first byte, " + n + " bytes", s, 0, x -> x.count(0, from + 1, 10));
        }
        answers("longer than the text", ten.withPattern("abcdefghijk"), 0, x -> x.count(0, 0, 10));
        answers("sixteen bytes of a full text", ten.withPattern("abcdefghabcdefgh"), 124, x -> x.count(3, 0, 1000));
        answers("sixteen bytes but for the last", ten.withPattern("abcdefghabcdefgx"), 0, x -> x.count(3, 0, 1000));
        answers("one byte everywhere", Scene.of("\0".repeat(1000)).withPattern("\0"), 1000, x -> x.count(0, 0, 1000));
        answers("bytes 255", Scene.of("\377\377\377").withPattern("\377\377"), 2, x -> x.count(0, 0, 3));
    }

    private static int placesOf(String pattern, String text) {
        int places = 0;
        for (int i = 0; i < text.length(); i++) {
            places += text.startsWith(pattern, i) ? 1 : 0;
        }
        return places;
    }

    private void find() {
        boundary("17", "Illegal argument: a document is not 0 .. 3");
        int[] first = {0, 0, 1, 1};
        answersEach("d", FOUR, DOCUMENTS, d -> x -> x.find(d, 0, 0), d -> first[d]);
        refusesEach("d", ILLEGAL, FOUR, NO_DOCUMENTS, d -> x -> x.find(d, 0, 0));
        findNumbers();
        findPlaces();

        boundary("17", "illegal state: there is no pattern");
        Scene none = USUAL.withoutPattern();
        answers("there is one", USUAL, 0, x -> x.find(0, 0, 0));
        answers("there is one, nor a byte", USUAL, NONE, x -> x.find(2, 0, 0));
        refusesEach("there is none, d", STATE, none, DOCUMENTS, d -> x -> x.find(d, 0, 0));
        refuses("there is none, at the end", STATE, none, x -> x.find(0, 5, 0));
        refuses("there is none, the greatest k", STATE, none, x -> x.find(0, 0, MAX));
        findReasons(none);
    }

    private void findNumbers() {
        Scene s = Scene.of("abxabab", "", "ba", "ab".repeat(500));
        int[] places = {0, 3, 5};
        boundary("17", "Illegal argument: also if k is below 0");
        answersEach("k", s, new int[] {0, 1, 2}, k -> x -> x.find(0, 0, k), k -> places[k]);
        refusesEach("k", ILLEGAL, s, new int[] {-1, -2, MIN}, k -> x -> x.find(0, 0, k));
        answers("in no bytes, k 0", s, NONE, x -> x.find(1, 0, 0));
        refusesEach("in no bytes, k", ILLEGAL, s, new int[] {-1, MIN}, k -> x -> x.find(1, 0, k));

        sentence("17", "NONE when there are no more than k of them");
        is("NONE", -1, () -> NONE);
        answers("the last one", s, 5, x -> x.find(0, 0, 2));
        answersEach("no more, k", s, new int[] {3, 4, MAX - 1, MAX}, k -> x -> x.find(0, 0, k), k -> NONE);
        answersEach("of none, k", s, new int[] {0, 1, MAX}, k -> x -> x.find(2, 0, k), k -> NONE);
        answersEach("in no bytes, k", s, new int[] {0, 1, MAX}, k -> x -> x.find(1, 0, k), k -> NONE);
        answers("from the last one on", s, 5, x -> x.find(0, 5, 0));
        answers("from behind the last one on", s, NONE, x -> x.find(0, 6, 0));
        answersEach("in a full text, k", s, new int[] {0, 1, 499}, k -> x -> x.find(3, 0, k), k -> 2 * k);
        answersEach("no more in a full text, k", s, new int[] {500, 501, MAX}, k -> x -> x.find(3, 0, k), k -> NONE);
    }

    private void findPlaces() {
        boundary("17", "index out of bounds: there is no piece at i");
        int[] next = {0, 3, 3, 3, NONE, NONE};
        answersEach("i", USUAL, new int[] {0, 1, 2, 3, 4, 5}, i -> x -> x.find(0, i, 0), i -> next[i]);
        refusesEach("i", BOUNDS, USUAL, new int[] {-1, 6, MIN, MAX}, i -> x -> x.find(0, i, 0));
        answers("no bytes, i 0", USUAL, NONE, x -> x.find(2, 0, 0));
        refusesEach("no bytes, i", BOUNDS, USUAL, new int[] {-1, 1, MIN, MAX}, i -> x -> x.find(2, i, 0));
        answers("a full text, the last i but eight", USUAL, 992, x -> x.find(3, 992, 0));
        answersEach("a full text, i", USUAL, new int[] {993, 999, 1000}, i -> x -> x.find(3, i, 0), i -> NONE);
        refusesEach("a full text, i", BOUNDS, USUAL, new int[] {-1, 1001, MIN, MAX}, i -> x -> x.find(3, i, 0));
        answers("up to the end of the text", Scene.of("xxab"), 2, x -> x.find(0, 0, 0));
        answers("not beyond the end of the text", Scene.of("xxa"), NONE, x -> x.find(0, 0, 0));
        Scene longest = Scene.of("x" + Scene.letters(16)).withPattern(Scene.letters(16));
        answers("sixteen bytes up to the end", longest, 1, x -> x.find(0, 1, 0));
        answers("sixteen bytes behind their beginning", longest, NONE, x -> x.find(0, 2, 0));
    }

    private void findReasons(Scene none) {
        sentence("17", "illegal argument before index out of bounds before illegal state");
        for (int wrong : NO_DOCUMENTS) {
            refuses("no pattern, d " + wrong, ILLEGAL, none, x -> x.find(wrong, 0, 0));
            refuses("no piece, d " + wrong, ILLEGAL, USUAL, x -> x.find(wrong, -1, 0));
            refuses("no pattern and no piece, d " + wrong, ILLEGAL, none, x -> x.find(wrong, 1001, 0));
            refuses("all, d " + wrong, ILLEGAL, none, x -> x.find(wrong, 1001, -1));
        }
        for (int k : new int[] {-1, MIN}) {
            refuses("no pattern, k " + k, ILLEGAL, none, x -> x.find(0, 0, k));
            refusesEach("no piece, k " + k + ", i", ILLEGAL, USUAL, new int[] {-1, 6, MIN, MAX},
                    i -> x -> x.find(0, i, k));
            refusesEach("nor a pattern, k " + k + ", i", ILLEGAL, none, new int[] {-1, 6, MIN, MAX},
                    i -> x -> x.find(0, i, k));
        }
        refusesEach("no pattern and no piece, i", BOUNDS, none, new int[] {-1, 6, MIN, MAX}, i -> x -> x.find(0, i, 0));
    }

    private void lead() {
        boundary("18", "Illegal argument: s or t is not 0 .. 7");
        for (int s : STATES) {
            becomesEach("from " + s + " to", USUAL, STATES, t -> doing(x -> x.lead(s, 'a', 'c', t)), t -> "done",
                    t -> USUAL.withLead(s, 'a', 'c', t));
            refusesEach("from " + s + " to", ILLEGAL, USUAL, NO_STATES, t -> doing(x -> x.lead(s, 0, 255, t)));
            refusesEach("to " + s + " from", ILLEGAL, USUAL, NO_STATES, t -> doing(x -> x.lead(t, 0, 255, s)));
        }
        refusesEach("from and to", ILLEGAL, USUAL, NO_STATES, t -> doing(x -> x.lead(t, 0, 255, t)));
        leadBytes();
    }

    private void leadBytes() {
        boundary("18", "Illegal argument: not 0 <= low <= high <= 255");
        int[][] taken = {{0, 255}, {0, 0}, {255, 255}, {254, 255}, {0, 1}, {127, 128}, {128, 128}, {1, 254}};
        for (int[] b : taken) {
            becomes(b[0] + " .. " + b[1], USUAL, "done", doing(x -> x.lead(3, b[0], b[1], 4)),
                    USUAL.withLead(3, b[0], b[1], 4));
            becomes(b[0] + " .. " + b[1] + ", the last states", USUAL, "done", doing(x -> x.lead(7, b[0], b[1], 7)),
                    USUAL.withLead(7, b[0], b[1], 7));
            becomes(b[0] + " .. " + b[1] + ", back to 0", USUAL, "done", doing(x -> x.lead(2, b[0], b[1], 0)),
                    USUAL.withLead(2, b[0], b[1], 0));
        }
        int[][] wrong = {{-1, 0}, {-1, 255}, {-1, -1}, {0, 256}, {255, 256}, {256, 256}, {256, 255}, {1, 0}, {255, 254},
            {128, 127}, {0, -1}, {MIN, 255}, {MIN, MIN}, {MIN, MAX}, {0, MAX}, {MAX, MAX}, {MAX, MIN}, {0, MIN},
            {MAX, 0}};
        for (int[] b : wrong) {
            for (int s : new int[] {0, 3, 7}) {
                refuses(b[0] + " .. " + b[1] + " from " + s, ILLEGAL, USUAL, doing(x -> x.lead(s, b[0], b[1], 4)));
            }
            refuses("no states either, " + b[0] + " .. " + b[1], ILLEGAL, USUAL, doing(x -> x.lead(8, b[0], b[1], -1)));
        }
    }

    private void accept() {
        boundary("19", "Illegal argument: s is not 0 .. 7");
        becomesEach("accepts", USUAL, STATES, s -> doing(x -> x.accept(s, true)), s -> "done",
                s -> USUAL.withAccept(s, true));
        becomesEach("does not", USUAL, STATES, s -> doing(x -> x.accept(s, false)), s -> "done",
                s -> USUAL.withAccept(s, false));
        refusesEach("accepts", ILLEGAL, USUAL, NO_STATES, s -> doing(x -> x.accept(s, true)));
        refusesEach("does not", ILLEGAL, USUAL, NO_STATES, s -> doing(x -> x.accept(s, false)));
    }

    private void run() {
        boundary("20", "Illegal argument: a document is not 0 .. 3");
        int[] reached = {2, 2, 1, 0};
        answersEach("d", FOUR, DOCUMENTS, d -> x -> x.run(d, 0, 2, 0), d -> reached[d]);
        refusesEach("d", ILLEGAL, FOUR, NO_DOCUMENTS, d -> x -> x.run(d, 0, 0, 0));
        states("20", (x, d, from, to, state) -> x.run(d, from, to, state), state -> state);

        boundary("20", "index out of bounds: the range is not in the text");
        for (int d : DOCUMENTS) {
            String text = USUAL.text(d);
            answersRanges("of " + d, USUAL, text.length(), (from, to) -> x -> x.run(d, from, to, 0),
                    (from, to) -> read(text.substring(from, to), 0));
        }
        runReasons("20", (x, d, from, to, state) -> x.run(d, from, to, state));
    }

    private static int read(String bytes, int s) {
        int state = s;
        for (int i = 0; i < bytes.length(); i++) {
            state = USUAL.next(state, bytes.charAt(i));
        }
        return state;
    }

    private interface OfStates {
        Object ask(PairedTexts x, int d, int from, int to, int s);
    }

    /** The states that run and accepted take and refuse, in ranges without bytes and with some. */
    private void states(String promise, OfStates call, IntFunction<Object> withoutBytes) {
        boundary(promise, "Illegal argument: also if s is not 0 .. 7");
        answersEach("no bytes, s", USUAL, STATES, s -> x -> call.ask(x, 0, 2, 2, s), withoutBytes);
        answersEach("no bytes of none, s", USUAL, STATES, s -> x -> call.ask(x, 2, 0, 0, s), withoutBytes);
        refusesEach("s", ILLEGAL, USUAL, NO_STATES, s -> x -> call.ask(x, 0, 0, 5, s));
        refusesEach("no bytes, s", ILLEGAL, USUAL, NO_STATES, s -> x -> call.ask(x, 0, 2, 2, s));
        refusesEach("no bytes of none, s", ILLEGAL, USUAL, NO_STATES, s -> x -> call.ask(x, 2, 0, 0, s));
    }

    private void runReasons(String promise, OfStates call) {
        sentence(promise, "illegal argument before index out of bounds");
        for (int wrong : NO_DOCUMENTS) {
            refusesRanges("d " + wrong, ILLEGAL, USUAL, 5, (from, to) -> x -> call.ask(x, wrong, from, to, 0));
            refuses("no state either, d " + wrong, ILLEGAL, USUAL, x -> call.ask(x, wrong, 0, 0, 8));
        }
        for (int wrong : NO_STATES) {
            refusesRanges("s " + wrong, ILLEGAL, USUAL, 5, (from, to) -> x -> call.ask(x, 0, from, to, wrong));
        }
    }

    private void accepted() {
        boundary("21", "Illegal argument: a document is not 0 .. 3");
        int[] beginnings = {1, 1, 0, 0};
        answersEach("d", FOUR, DOCUMENTS, d -> x -> x.accepted(d, 0, 2, 0), d -> beginnings[d]);
        refusesEach("d", ILLEGAL, FOUR, NO_DOCUMENTS, d -> x -> x.accepted(d, 0, 0, 0));
        states("21", (x, d, from, to, state) -> x.accepted(d, from, to, state), state -> USUAL.accepts(state) ? 1 : 0);
        acceptedBeginnings();

        boundary("21", "index out of bounds: the range is not in the text");
        for (int d : DOCUMENTS) {
            String text = USUAL.text(d);
            answersRanges("of " + d, USUAL, text.length(), (from, to) -> x -> x.accepted(d, from, to, 0),
                    (from, to) -> beginningsOf(text.substring(from, to), 0));
        }
        runReasons("21", (x, d, from, to, state) -> x.accepted(d, from, to, state));
    }

    private static int beginningsOf(String bytes, int s) {
        int beginnings = 0;
        for (int end = 0; end <= bytes.length(); end++) {
            beginnings += USUAL.accepts(read(bytes.substring(0, end), s)) ? 1 : 0;
        }
        return beginnings;
    }

    private void acceptedBeginnings() {
        sentence("21", "How many beginnings of a range, that without bytes and the whole one too");
        Scene all = USUAL;
        for (int s : STATES) {
            all = all.withAccept(s, true);
        }
        answers("all states accept, no bytes", all, 1, x -> x.accepted(2, 0, 0, 3));
        answers("all states accept, no bytes at the end", all, 1, x -> x.accepted(0, 5, 5, 3));
        answers("all states accept, one byte", all, 2, x -> x.accepted(0, 4, 5, 3));
        answers("all states accept, five bytes", all, 6, x -> x.accepted(0, 0, 5, 3));
        answers("all states accept, a full text", all, 1001, x -> x.accepted(3, 0, 1000, 3));
        Scene s = Scene.of("ab");
        answers("that without bytes alone", s, 1, x -> x.accepted(0, 0, 2, 2));
        answers("the whole one alone", s, 1, x -> x.accepted(0, 0, 2, 0));
        answers("not beyond the range", s, 0, x -> x.accepted(0, 0, 1, 0));
        answers("both", s.withAccept(0, true), 2, x -> x.accepted(0, 0, 2, 0));
        answers("none of a new automaton", Scene.NEW.withText(0, FULL), 0, x -> x.accepted(0, 0, 1000, 0));
    }
}
