import java.util.function.Supplier;

/**
 * Looks at all that an object holds, through its face: every byte of every text, the pattern, all next states and which
 * states accept. An object answers 512 calls, so that it is made anew for each part of the look.
 */
final class Look {
    private static final int BYTES_A_LOOK = 256;

    private final Scene due;
    private final Supplier<PairedTexts> maker;

    private Look(Scene due, Supplier<PairedTexts> maker) {
        this.due = due;
        this.maker = maker;
    }

    /** What is not as it is due; nothing if all is. */
    static String difference(Scene due, Supplier<PairedTexts> maker) {
        Look look = new Look(due, maker);
        StringBuilder found = new StringBuilder();
        for (int d = 0; d < 4; d++) {
            found.append(look.text(d));
        }
        found.append(look.pattern());
        for (int s = 0; s < 8; s++) {
            found.append(look.nextStates(s));
        }
        return found.append(look.accepting()).toString();
    }

    private String text(int d) {
        PairedTexts x = maker.get();
        int length = due.text(d).length();
        String found = unless("length of " + d, length, () -> x.length(d));
        for (int from = 0; from < length && found.isEmpty(); from += BYTES_A_LOOK) {
            found = bytes(d, from, Math.min(length, from + BYTES_A_LOOK));
        }
        return found;
    }

    private String bytes(int d, int from, int to) {
        PairedTexts x = maker.get();
        String found = "";
        for (int i = from; i < to && found.isEmpty(); i++) {
            int place = i;
            found = unless("byte " + i + " of " + d, (int) due.text(d).charAt(i), () -> x.byteAt(d, place));
        }
        return found;
    }

    /** Where a pattern stands once in a row, but in neither of the rows that are one byte shorter, it is that row. */
    private String pattern() {
        PairedTexts x = maker.get();
        if (!due.hasPattern()) {
            return unless("pattern", "throws.IllegalStateException", () -> x.count(0, 0, 0));
        }
        String bytes = due.pattern();
        int n = bytes.length();
        writeAnew(x, bytes);
        return unless("pattern as a whole", 1, () -> x.count(0, 0, n))
                + unless("pattern without its last byte", 0, () -> x.count(0, 0, n - 1))
                + unless("pattern without its first byte", 0, () -> x.count(0, 1, n));
    }

    private String nextStates(int s) {
        PairedTexts x = maker.get();
        StringBuilder allBytes = new StringBuilder();
        for (int b = 0; b < 256; b++) {
            allBytes.append((char) b);
        }
        writeAnew(x, allBytes.toString());
        String found = "";
        for (int b = 0; b < 256 && found.isEmpty(); b++) {
            int place = b;
            found = unless("next state of " + s + " with " + b, due.next(s, b), () -> x.run(0, place, place + 1, s));
        }
        return found;
    }

    private String accepting() {
        PairedTexts x = maker.get();
        StringBuilder found = new StringBuilder();
        for (int s = 0; s < 8; s++) {
            int state = s;
            found.append(unless("accepts " + s, due.accepts(s) ? 1 : 0, () -> x.accepted(0, 0, 0, state)));
        }
        return found.toString();
    }

    private static void writeAnew(PairedTexts x, String text) {
        x.delete(0, 0, x.length(0));
        for (int from = 0; from < text.length(); from += 8) {
            x.write(0, Scene.number(text, from), Math.min(8, text.length() - from));
        }
    }

    private static String unless(String what, Object want, Due.Call call) {
        String got = Due.outcome(call);
        return got.equals(String.valueOf(want)) ? "" : "[" + what + " is " + got + " for " + want + "]";
    }
}
