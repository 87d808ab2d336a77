import java.math.BigInteger;

/**
 * The document's words in their plainest form, on Strings, without any thought of cost: what PairedTexts answers is
 * compared with this. It is written apart from PairedTexts and shares nothing with it.
 */
final class PlainTexts {
    private static final BigInteger FACTOR = BigInteger.valueOf(1000003);
    private static final BigInteger MODULUS = BigInteger.TWO.pow(61).subtract(BigInteger.ONE);

    private final String[] texts = {"", "", "", ""};
    private final int[][] next = new int[8][256];
    private final boolean[] accepts = new boolean[8];
    private String pattern = null;

    int write(int d, long bytes, int n) {
        illegalIf(noDocument(d) || n < 1 || n > 8);
        unsupportedIf(texts[d].length() + n > 1000);
        texts[d] += lowest(n, BigInteger.valueOf(bytes));
        return texts[d].length();
    }

    int length(int d) {
        illegalIf(noDocument(d));
        return texts[d].length();
    }

    int byteAt(int d, int i) {
        illegalIf(noDocument(d));
        outsideIf(i < 0 || i >= texts[d].length());
        return texts[d].charAt(i);
    }

    int copy(int d, int from, int to, int e) {
        illegalIf(noDocument(d) || noDocument(e));
        outsideIf(noRange(d, from, to));
        texts[e] = texts[d].substring(from, to);
        return texts[e].length();
    }

    int join(int d, int e, int g) {
        illegalIf(noDocument(d) || noDocument(e) || noDocument(g));
        String joined = texts[d] + texts[e];
        unsupportedIf(joined.length() > 1000);
        texts[g] = joined;
        return joined.length();
    }

    int insert(int d, int at, int e, int from, int to) {
        illegalIf(noDocument(d) || noDocument(e));
        outsideIf(noRange(e, from, to) || noPiece(d, at));
        String longer = texts[d].substring(0, at) + texts[e].substring(from, to) + texts[d].substring(at);
        unsupportedIf(longer.length() > 1000);
        texts[d] = longer;
        return longer.length();
    }

    int delete(int d, int from, int to) {
        illegalIf(noDocument(d));
        outsideIf(noRange(d, from, to));
        texts[d] = rest(d, from, to);
        return texts[d].length();
    }

    int move(int d, int from, int to, int at) {
        illegalIf(noDocument(d));
        outsideIf(noRange(d, from, to));
        String rest = rest(d, from, to);
        outsideIf(at < 0 || at > rest.length());
        texts[d] = rest.substring(0, at) + texts[d].substring(from, to) + rest.substring(at);
        return texts[d].length();
    }

    int repeat(int d, int from, int to, int n) {
        illegalIf(noDocument(d) || n < 0);
        outsideIf(noRange(d, from, to));
        String rest = rest(d, from, to);
        String range = texts[d].substring(from, to);
        BigInteger length = BigInteger.valueOf(range.length()).multiply(BigInteger.valueOf(n));
        unsupportedIf(length.add(BigInteger.valueOf(rest.length())).compareTo(BigInteger.valueOf(1000)) > 0);
        texts[d] = rest.substring(0, from) + range.repeat(n) + rest.substring(from);
        return texts[d].length();
    }

    boolean same(int d, int i, int e, int j, int n) {
        illegalIf(noDocument(d) || noDocument(e) || n < 0);
        outsideIf(noRange(d, i, (long) i + n) || noRange(e, j, (long) j + n));
        return texts[d].substring(i, i + n).equals(texts[e].substring(j, j + n));
    }

    int prefix(int d, int i, int e, int j) {
        illegalIf(noDocument(d) || noDocument(e));
        outsideIf(noPiece(d, i) || noPiece(e, j));
        String first = texts[d].substring(i);
        String second = texts[e].substring(j);
        int longest = 0;
        for (int n = 1; n <= first.length(); n++) {
            longest = second.startsWith(first.substring(0, n)) ? n : longest;
        }
        return longest;
    }

    int order(int d, int i, int e, int j) {
        illegalIf(noDocument(d) || noDocument(e));
        outsideIf(noPiece(d, i) || noPiece(e, j));
        return Integer.signum(texts[d].substring(i).compareTo(texts[e].substring(j)));
    }

    long name(int d, int from, int to) {
        illegalIf(noDocument(d));
        outsideIf(noRange(d, from, to));
        BigInteger name = BigInteger.ZERO;
        for (char b : texts[d].substring(from, to).toCharArray()) {
            name = name.multiply(FACTOR).add(BigInteger.valueOf(b + 1)).mod(MODULUS);
        }
        return name.longValueExact();
    }

    void pattern(long low, long high, int n) {
        illegalIf(n < 1 || n > 16);
        pattern = (lowest(8, BigInteger.valueOf(low)) + lowest(8, BigInteger.valueOf(high))).substring(0, n);
    }

    int count(int d, int from, int to) {
        illegalIf(noDocument(d));
        outsideIf(noRange(d, from, to));
        stateIf(pattern == null);
        String range = texts[d].substring(from, to);
        int places = 0;
        for (int at = range.indexOf(pattern); at >= 0; at = range.indexOf(pattern, at + 1)) {
            places++;
        }
        return places;
    }

    int find(int d, int i, int k) {
        illegalIf(noDocument(d) || k < 0);
        outsideIf(noPiece(d, i));
        stateIf(pattern == null);
        int at = texts[d].indexOf(pattern, i);
        for (int n = 0; n < k && at >= 0; n++) {
            at = texts[d].indexOf(pattern, at + 1);
        }
        return at;
    }

    void lead(int s, int low, int high, int t) {
        illegalIf(noState(s) || noState(t) || low < 0 || low > high || high > 255);
        for (int b = 0; b < 256; b++) {
            next[s][b] = low <= b && b <= high ? t : next[s][b];
        }
    }

    void accept(int s, boolean does) {
        illegalIf(noState(s));
        accepts[s] = does;
    }

    int run(int d, int from, int to, int s) {
        illegalIf(noDocument(d) || noState(s));
        outsideIf(noRange(d, from, to));
        return read(texts[d].substring(from, to), s);
    }

    int accepted(int d, int from, int to, int s) {
        illegalIf(noDocument(d) || noState(s));
        outsideIf(noRange(d, from, to));
        int beginnings = 0;
        for (int end = from; end <= to; end++) {
            beginnings += accepts[read(texts[d].substring(from, end), s)] ? 1 : 0;
        }
        return beginnings;
    }

    private int read(String bytes, int s) {
        int state = s;
        for (char b : bytes.toCharArray()) {
            state = next[state][b];
        }
        return state;
    }

    private String rest(int d, int from, int to) {
        return texts[d].substring(0, from) + texts[d].substring(to);
    }

    private static String lowest(int n, BigInteger number) {
        StringBuilder bytes = new StringBuilder();
        for (int k = 0; k < n; k++) {
            bytes.append((char) number.shiftRight(8 * k).mod(BigInteger.valueOf(256)).intValue());
        }
        return bytes.toString();
    }

    private static boolean noDocument(int d) {
        return d < 0 || d > 3;
    }

    private static boolean noState(int s) {
        return s < 0 || s > 7;
    }

    private boolean noRange(int d, long from, long to) {
        return from < 0 || to < from || to > texts[d].length();
    }

    private boolean noPiece(int d, int i) {
        return i < 0 || i > texts[d].length();
    }

    private static void illegalIf(boolean wrong) {
        if (wrong) {
            throw new IllegalArgumentException();
        }
    }

    private static void outsideIf(boolean wrong) {
        if (wrong) {
            throw new IndexOutOfBoundsException();
        }
    }

    private static void unsupportedIf(boolean wrong) {
        if (wrong) {
            throw new UnsupportedOperationException();
        }
    }

    private static void stateIf(boolean wrong) {
        if (wrong) {
            throw new IllegalStateException();
        }
    }
}
