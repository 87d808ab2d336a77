/**
 * Long mixed runs of calls, right and wrong ones, whose answers are compared with those of PlainTexts; behind each call
 * the texts are compared too. The runs are drawn by a rule of numbers, so that they are the same every time.
 */
public final class ModelTest {
    private static final int RUNS = 400;
    /** With nine calls each (its own, and the length and the name of each text) and nine before: at most 512. */
    private static final int STEPS = 55;
    private static final int[] ODD = {-1, -2, Integer.MIN_VALUE, Integer.MAX_VALUE, 1000, 1001, 256, 8, 4};

    private final Due due = new Due();
    private long drawn;
    private int oddOneIn;
    private int letters;
    private PairedTexts real;
    private PlainTexts plain;

    public static void main(String[] args) {
        ModelTest test = new ModelTest();
        for (int run = 0; run < RUNS; run++) {
            test.run(run);
        }
        test.due.end();
    }

    private void run(int run) {
        drawn = run;
        // Some runs have nearly no wrong calls, so that texts grow; few letters make much of the texts the same.
        oddOneIn = run % 3 == 0 ? 8 : 40;
        letters = run % 4 == 3 ? 256 : 1 + run % 4;
        real = new PairedTexts();
        plain = new PlainTexts();
        if (run % 5 > 0) {
            prepare("run " + run);
        }
        for (int step = 0; step < STEPS; step++) {
            step("run " + run + " step " + step);
            compareTexts("run " + run + " behind step " + step);
        }
    }

    /** Long texts and a pattern to begin with: without them a run comes late to them, or not at all. */
    private void prepare(String where) {
        for (int d = 0; d < 4; d++) {
            int document = d;
            long bytes = bytes();
            int n = below(126);
            answer(where + " first write", () -> plain.write(document, bytes, 8), () -> real.write(document, bytes, 8));
            answer(where + " first repeat", () -> plain.repeat(document, 0, 8, n),
                    () -> real.repeat(document, 0, 8, n));
        }
        long low = bytes();
        int n = 1 + below(2);
        deed(where + " first pattern", () -> plain.pattern(low, 0, n), () -> real.pattern(low, 0, n));
    }

    private void compareTexts(String where) {
        for (int d = 0; d < 4; d++) {
            int document = d;
            int length = plain.length(d);
            due.is(where + " length " + d, length, () -> real.length(document));
            due.is(where + " name " + d, plain.name(d, 0, length), () -> real.name(document, 0, length));
        }
    }

    private void answer(String call, Due.Call ofPlain, Due.Call ofReal) {
        due.compare(call, Due.outcome(ofPlain), Due.outcome(ofReal));
    }

    private void deed(String call, Due.Deed ofPlain, Due.Deed ofReal) {
        answer(call, () -> done(ofPlain), () -> done(ofReal));
    }

    private static String done(Due.Deed deed) {
        deed.call();
        return "done";
    }

    private void step(String where) {
        int kind = below(27);
        if (kind < 14) {
            change(where, kind);
        } else {
            ask(where, kind);
        }
    }

    private void change(String where, int kind) {
        int d = document();
        int e = document();
        int g = document();
        int from = place(d);
        int to = placeFrom(d, from);
        switch (kind) {
            case 0, 1, 2, 3 -> {
                long bytes = bytes();
                int n = odd(1 + below(8));
                answer(where + " write", () -> plain.write(d, bytes, n), () -> real.write(d, bytes, n));
            }
            case 4 -> answer(where + " copy", () -> plain.copy(d, from, to, e), () -> real.copy(d, from, to, e));
            case 5, 6 -> answer(where + " join", () -> plain.join(d, e, g), () -> real.join(d, e, g));
            case 7, 8 -> {
                int at = place(e);
                answer(where + " insert", () -> plain.insert(e, at, d, from, to),
                        () -> real.insert(e, at, d, from, to));
            }
            case 9 -> answer(where + " delete", () -> plain.delete(d, from, to), () -> real.delete(d, from, to));
            case 10, 11 -> {
                int rest = lengthOf(d) - Math.max(0, to - from);
                int at = odd(below(Math.max(0, rest) + 1));
                answer(where + " move", () -> plain.move(d, from, to, at), () -> real.move(d, from, to, at));
            }
            default -> {
                int n = from == to ? below(100) : odd(below(6));
                answer(where + " repeat", () -> plain.repeat(d, from, to, n), () -> real.repeat(d, from, to, n));
            }
        }
    }

    private void ask(String where, int kind) {
        int d = document();
        int e = document();
        int i = place(d);
        int j = place(e);
        int to = placeFrom(d, i);
        int s = odd(below(8));
        int k = odd(below(8));
        int most = Math.min(lengthOf(d) - i, lengthOf(e) - j);
        int n = odd(most < 0 || below(8) == 0 ? below(1000) : below(most + 1));
        switch (kind) {
            case 14 -> answer(where + " byteAt", () -> plain.byteAt(d, i), () -> real.byteAt(d, i));
            case 15 -> answer(where + " same", () -> plain.same(d, i, e, j, n), () -> real.same(d, i, e, j, n));
            case 16 -> answer(where + " prefix", () -> plain.prefix(d, i, e, j), () -> real.prefix(d, i, e, j));
            case 17 -> answer(where + " order", () -> plain.order(d, i, e, j), () -> real.order(d, i, e, j));
            case 18 -> answer(where + " name", () -> plain.name(d, i, to), () -> real.name(d, i, to));
            case 19 -> answer(where + " count", () -> plain.count(d, i, to), () -> real.count(d, i, to));
            case 20 -> answer(where + " find", () -> plain.find(d, i, k), () -> real.find(d, i, k));
            case 21 -> answer(where + " run", () -> plain.run(d, i, to, s), () -> real.run(d, i, to, s));
            case 22 -> answer(where + " accepted", () -> plain.accepted(d, i, to, s), () -> real.accepted(d, i, to, s));
            case 23 -> {
                long low = bytes();
                long high = bytes();
                int size = odd(below(4) == 0 ? 1 + below(16) : 1 + below(3));
                deed(where + " pattern", () -> plain.pattern(low, high, size), () -> real.pattern(low, high, size));
            }
            case 24, 25 -> {
                int low = odd(below(letters));
                int high = odd(low < 0 || low > 255 ? 255 : low + below(256 - low));
                deed(where + " lead", () -> plain.lead(s, low, high, k), () -> real.lead(s, low, high, k));
            }
            default -> {
                boolean does = below(3) > 0;
                deed(where + " accept", () -> plain.accept(s, does), () -> real.accept(s, does));
            }
        }
    }

    private int below(int bound) {
        drawn = drawn * 6364136223846793005L + 1442695040888963407L;
        return (int) ((drawn >>> 33) % bound);
    }

    private int odd(int number) {
        return below(oddOneIn * 3) == 0 ? ODD[below(ODD.length)] : number;
    }

    private int document() {
        return odd(below(4));
    }

    private int lengthOf(int d) {
        return d < 0 || d > 3 ? 0 : plain.length(d);
    }

    private int place(int d) {
        int edge = below(10);
        int length = lengthOf(d);
        return odd(edge == 0 ? 0 : edge == 1 ? length : edge == 2 ? length + below(2) : below(length + 1));
    }

    private int placeFrom(int d, int from) {
        int rest = lengthOf(d) - from;
        return rest < 0 || from < 0 ? place(d) : odd(from + (below(3) == 0 ? rest : below(rest + 1)));
    }

    private long bytes() {
        long bytes = 0;
        for (int k = 0; k < 8; k++) {
            bytes = bytes << 8 | below(letters);
        }
        return bytes;
    }
}
