import java.math.BigInteger;
import java.util.function.IntFunction;
import java.util.function.Supplier;

/**
 * Tests of calls at the edges of what the document allows, sentence by sentence. Of each call both the answer is looked
 * at and all that the object holds behind it.
 */
abstract class Edges {
    static final Class<IllegalArgumentException> ILLEGAL = IllegalArgumentException.class;
    static final Class<IndexOutOfBoundsException> BOUNDS = IndexOutOfBoundsException.class;
    static final Class<UnsupportedOperationException> UNSUPPORTED = UnsupportedOperationException.class;
    static final Class<IllegalStateException> STATE = IllegalStateException.class;
    static final int MIN = Integer.MIN_VALUE;
    static final int MAX = Integer.MAX_VALUE;
    static final long MODULUS = (1L << 61) - 1;
    static final int[] DOCUMENTS = {0, 1, 2, 3};
    static final int[] NO_DOCUMENTS = {-1, 4, MIN, MAX};
    static final int[] STATES = {0, 1, 2, 3, 4, 5, 6, 7};
    static final int[] NO_STATES = {-1, 8, MIN, MAX};

    interface Ask {
        Object of(PairedTexts x);
    }

    interface Act {
        void on(PairedTexts x);
    }

    interface OfRange<T> {
        T of(int from, int to);
    }

    private final Due due = new Due();
    private String sentence = "";
    private boolean hasTwoSides = false;
    private int taken = 0;
    private int refused = 0;

    static Ask doing(Act act) {
        return x -> {
            act.on(x);
            return "done";
        };
    }

    /** Reckoned as a whole, and only then taken modulo 2^61 - 1. */
    static long nameOf(String bytes) {
        BigInteger name = BigInteger.ZERO;
        for (int i = 0; i < bytes.length(); i++) {
            name = name.multiply(BigInteger.valueOf(1000003)).add(BigInteger.valueOf(bytes.charAt(i) + 1));
        }
        return name.mod(BigInteger.valueOf(MODULUS)).longValueExact();
    }

    /** Begins the test of a sentence of the document. */
    void sentence(String where, String words) {
        endSentence();
        sentence = where + " \"" + words + "\" ";
        taken = 0;
        refused = 0;
    }

    /** Begins the test of a sentence that tells a boundary: both what is taken and what is refused must be shown. */
    void boundary(String where, String words) {
        sentence(where, words);
        hasTwoSides = true;
    }

    private void endSentence() {
        if (hasTwoSides) {
            due.compare(sentence + "has calls on both sides", "true", String.valueOf(taken > 0 && refused > 0));
        }
        hasTwoSides = false;
    }

    void end() {
        endSentence();
        due.end();
    }

    void is(String what, Object want, Due.Call call) {
        due.is(sentence + what, want, call);
    }

    void holds(String what, Scene want, Supplier<PairedTexts> maker) {
        due.compare(sentence + what, "", Look.difference(want, maker));
    }

    /** The call gives an answer, whichever. */
    void takes(String what, Scene scene, Ask ask) {
        taken++;
        is(what + " is taken", false, () -> Due.outcome(() -> ask.of(scene.make())).startsWith("throws."));
    }

    /** The call gives an answer and changes nothing. */
    void answers(String what, Scene scene, Object want, Ask ask) {
        becomes(what, scene, want, ask, scene);
    }

    /** The call gives an answer, and behind it the object holds something else. */
    void becomes(String what, Scene before, Object want, Ask ask, Scene after) {
        taken++;
        is(what, want, () -> ask.of(before.make()));
        holds(what + ", what is held then: ", after, () -> behind(before, ask));
    }

    /** The call throws and changes nothing. */
    void refuses(String what, Class<? extends RuntimeException> want, Scene scene, Ask ask) {
        refused++;
        due.fails(sentence + what, want, () -> ask.of(scene.make()));
        holds(what + ", what is held then: ", scene, () -> behind(scene, ask));
    }

    private static PairedTexts behind(Scene before, Ask ask) {
        PairedTexts x = before.make();
        Due.outcome(() -> ask.of(x));
        return x;
    }

    void refusesEach(String what, Class<? extends RuntimeException> want, Scene scene, int[] numbers,
            IntFunction<Ask> call) {
        for (int number : numbers) {
            refuses(what + " " + number, want, scene, call.apply(number));
        }
    }

    void answersEach(String what, Scene scene, int[] numbers, IntFunction<Ask> call, IntFunction<Object> want) {
        becomesEach(what, scene, numbers, call, want, number -> scene);
    }

    void becomesEach(String what, Scene before, int[] numbers, IntFunction<Ask> call, IntFunction<Object> want,
            IntFunction<Scene> after) {
        for (int number : numbers) {
            becomes(what + " " + number, before, want.apply(number), call.apply(number), after.apply(number));
        }
    }

    /** The ranges at the edges of a text, those without bytes among them. */
    private static int[][] rangesIn(int length) {
        int middle = length / 2;
        int last = Math.max(0, length - 1);
        return new int[][] {{0, 0}, {middle, middle}, {length, length}, {0, length}, {0, last}, {last, length},
            {Math.min(1, length), length}, {middle, last}};
    }

    /** Each of from, to and the order of the two is wrong by one, and then by as much as can be. */
    private static int[][] rangesNotIn(int length) {
        return new int[][] {{-1, 0}, {-1, length}, {-1, -1}, {0, length + 1}, {length, length + 1},
            {length + 1, length + 1}, {length + 1, length}, {1, 0}, {length, length - 1}, {0, -1},
            {MIN, 0}, {MIN, length}, {MIN, MIN}, {MIN, MAX}, {0, MAX}, {length, MAX},
            {MAX, MAX}, {MAX, MIN}, {MAX, 0}, {0, MIN}};
    }

    void answersRanges(String what, Scene scene, int length, OfRange<Ask> call, OfRange<Object> want) {
        becomesRanges(what, scene, length, call, want, (from, to) -> scene);
    }

    void becomesRanges(String what, Scene before, int length, OfRange<Ask> call, OfRange<Object> want,
            OfRange<Scene> after) {
        for (int[] r : rangesIn(length)) {
            becomes(what + " " + r[0] + " .. " + r[1] + " of " + length, before, want.of(r[0], r[1]),
                    call.of(r[0], r[1]), after.of(r[0], r[1]));
        }
        refusesRanges(what, BOUNDS, before, length, call);
    }

    /** Ranges that are not in the text; where another reason comes first, another exception may be due. */
    void refusesRanges(String what, Class<? extends RuntimeException> want, Scene scene, int length,
            OfRange<Ask> call) {
        for (int[] r : rangesNotIn(length)) {
            refuses(what + " " + r[0] + " .. " + r[1] + " of " + length, want, scene, call.of(r[0], r[1]));
        }
    }
}
