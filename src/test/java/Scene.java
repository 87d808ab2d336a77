/**
 * What an object holds, told in the document's terms. A scene is never changed: what would change it makes another one,
 * so that a test can tell what an object holds before a call and what it holds behind it.
 */
final class Scene {
    /** What a new object holds. */
    static final Scene NEW = new Scene(new String[] {"", "", "", ""}, null, new int[8][256], new boolean[8]);

    private final String[] texts;
    private final String pattern;
    private final int[][] next;
    private final boolean[] accepts;

    private Scene(String[] texts, String pattern, int[][] next, boolean[] accepts) {
        this.texts = texts;
        this.pattern = pattern;
        this.next = next;
        this.accepts = accepts;
    }

    /** Texts of up to four documents, with a pattern and an automaton that a wrong call could spoil. */
    static Scene of(String... texts) {
        Scene scene = NEW.withPattern("ab").withLead(0, 'a', 'a', 1).withLead(1, 'b', 'b', 2).withLead(2, 0, 255, 3)
                .withLead(5, 0, 0, 6).withLead(6, 255, 255, 5).withLead(7, 1, 254, 7).withAccept(2, true)
                .withAccept(7, true);
        for (int d = 0; d < texts.length; d++) {
            scene = scene.withText(d, texts[d]);
        }
        return scene;
    }

    /** As many bytes as said, the first ones of abcdefghabcdefgh.. . */
    static String letters(int length) {
        return "abcdefgh".repeat(length / 8 + 1).substring(0, length);
    }

    Scene withText(int d, String text) {
        String[] others = texts.clone();
        others[d] = text;
        return new Scene(others, pattern, next, accepts);
    }

    Scene withPattern(String bytes) {
        return new Scene(texts, bytes, next, accepts);
    }

    Scene withoutPattern() {
        return new Scene(texts, null, next, accepts);
    }

    Scene withLead(int s, int low, int high, int t) {
        int[][] others = next.clone();
        others[s] = next[s].clone();
        for (int b = low; b <= high; b++) {
            others[s][b] = t;
        }
        return new Scene(texts, pattern, others, accepts);
    }

    Scene withAccept(int s, boolean does) {
        boolean[] others = accepts.clone();
        others[s] = does;
        return new Scene(texts, pattern, next, others);
    }

    String text(int d) {
        return texts[d];
    }

    boolean hasPattern() {
        return pattern != null;
    }

    String pattern() {
        return pattern;
    }

    int next(int s, int b) {
        return next[s][b];
    }

    boolean accepts(int s) {
        return accepts[s];
    }

    PairedTexts make() {
        PairedTexts x = new PairedTexts();
        for (int d = 0; d < 4; d++) {
            fill(x, d);
        }
        if (pattern != null) {
            x.pattern(number(pattern, 0), number(pattern, 8), pattern.length());
        }
        for (int s = 0; s < 8; s++) {
            leadFrom(x, s);
            if (accepts[s]) {
                x.accept(s, true);
            }
        }
        return x;
    }

    /** Long texts are repeated, not written: few of an object's 512 calls are to be spent on making it. */
    private void fill(PairedTexts x, int d) {
        String text = texts[d];
        int written = 0;
        if (text.length() > 64 && text.equals(repeated(text))) {
            x.write(d, number(text, 0), 8);
            written = x.repeat(d, 0, 8, text.length() / 8);
        }
        while (written < text.length()) {
            written = x.write(d, number(text, written), Math.min(8, text.length() - written));
        }
    }

    private static String repeated(String text) {
        return text.substring(0, 8).repeat(text.length() / 8 + 1).substring(0, text.length());
    }

    private void leadFrom(PairedTexts x, int s) {
        for (int low = 0; low < 256; low++) {
            int high = low;
            while (high < 255 && next[s][high + 1] == next[s][low]) {
                high++;
            }
            if (next[s][low] != 0) {
                x.lead(s, low, high, next[s][low]);
            }
            low = high;
        }
    }

    /** The number whose bytes, the lowest one first, are the bytes from a place on, at most eight. */
    static long number(String bytes, int from) {
        long number = 0;
        for (int k = 0; k < 8 && from + k < bytes.length(); k++) {
            number |= (long) bytes.charAt(from + k) << (8 * k);
        }
        return number;
    }
}
