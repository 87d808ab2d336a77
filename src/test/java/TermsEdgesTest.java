import java.util.LinkedHashMap;
import java.util.Map;
import java.util.function.IntFunction;

/** The boundary cases of what the document says of all calls: "What it is", "Terms" and a new object. */
public final class TermsEdgesTest extends Edges {
    private static final Scene USUAL = Scene.of("abcab", "xyz", "", "\0\u00ff");
    private static final Scene FOUR = Scene.of("abcd", "ef", "ghi", "jklmn");

    public static void main(String[] args) {
        new TermsEdgesTest().test();
    }

    private void test() {
        callsOfOneObject();
        newObject();
        objectsApart();
        longestText();
        bytes();
        rangeWithoutBytes();
        rangeInText();
        piece();
        nameOfNone();
        modulus();
        sizeOfThePattern();
        overlap();
        allInTheRange();
        states();
        reading();
        documents();
        asTheyWereBefore();
        throwingChangesNothing();
        firstNamed();
        end();
    }

    private void callsOfOneObject() {
        sentence("What it is", "An object is used for at most 512 calls after it has been made");
        is("512 of write", 512, () -> lastOf512(x -> x.write(0, 'a', 1)));
        is("511 others and then write", 1, () -> {
            PairedTexts x = new PairedTexts();
            callOften(x, 511, y -> y.length(0));
            return x.write(0, 'a', 1);
        });
        is("511 refused ones and then write", 8, () -> {
            PairedTexts x = new PairedTexts();
            callOften(x, 511, y -> y.write(4, 0L, 9));
            return x.write(0, 'a', 8);
        });
        is("the 512th of them, behind many that read a full text", 1001, () -> {
            PairedTexts x = new PairedTexts();
            x.write(0, 'a', 1);
            x.repeat(0, 0, 1, 1000);
            x.accept(0, true);
            callOften(x, 508, y -> y.accepted(0, 0, 1000, 0));
            return x.accepted(0, 0, 1000, 0);
        });
        is("the 512th of them, behind many that change a full text", (int) 'f', () -> {
            PairedTexts x = new PairedTexts();
            x.write(0, Scene.number("abcdefgh", 0), 8);
            x.repeat(0, 0, 8, 125);
            callOften(x, 509, y -> y.move(0, 0, 1, 999));
            return x.byteAt(0, 0);
        });
        is("512 in which a text comes and goes", "256 0", () -> {
            PairedTexts x = new PairedTexts();
            callOften(x, 256, y -> y.write(3, 'a', 1));
            int longest = x.length(3);
            callOften(x, 254, y -> y.delete(3, 0, 1));
            return longest + " " + x.delete(3, 0, 2);
        });
    }

    private static Object lastOf512(Ask call) {
        PairedTexts x = new PairedTexts();
        callOften(x, 511, call);
        return call.of(x);
    }

    private static void callOften(PairedTexts x, int times, Ask call) {
        for (int k = 0; k < times; k++) {
            Due.outcome(() -> call.of(x));
        }
    }

    private void newObject() {
        sentence("1", "As said: no bytes, no pattern, all next states 0, no state that accepts");
        holds("a new object", Scene.NEW, PairedTexts::new);
        answersEach("length", Scene.NEW, DOCUMENTS, d -> x -> x.length(d), d -> 0);
        refusesEach("byteAt 0", BOUNDS, Scene.NEW, DOCUMENTS, d -> x -> x.byteAt(d, 0));
        refusesEach("count", STATE, Scene.NEW, DOCUMENTS, d -> x -> x.count(d, 0, 0));
        refusesEach("find", STATE, Scene.NEW, DOCUMENTS, d -> x -> x.find(d, 0, 0));
        answersEach("run", Scene.NEW, STATES, s -> x -> x.run(0, 0, 0, s), s -> s);
        answersEach("accepted", Scene.NEW, STATES, s -> x -> x.accepted(0, 0, 0, s), s -> 0);
    }

    private void objectsApart() {
        sentence("1", "As said, whatever another object holds");
        holds("a new one behind one that is used", Scene.NEW, () -> {
            FOUR.make();
            return new PairedTexts();
        });
        holds("one that is used, behind a new one", FOUR, () -> {
            PairedTexts x = FOUR.make();
            new PairedTexts().write(0, 0L, 8);
            return x;
        });
    }

    private void longestText() {
        boundary("Terms", "a row of at most 1000 bytes");
        String most = Scene.letters(1000);
        Scene nearly = Scene.of(Scene.letters(999), "i");
        Scene full = Scene.of(most, "i");
        Scene grown = nearly.withText(0, Scene.letters(999) + "i");
        Map<String, Ask> calls = new LinkedHashMap<>();
        calls.put("write", x -> x.write(0, 'i', 1));
        calls.put("join", x -> x.join(0, 1, 0));
        calls.put("insert", x -> x.insert(0, x.length(0), 1, 0, 1));
        calls.forEach((name, call) -> becomes(name + " to 1000", nearly, 1000, call, grown));
        calls.forEach((name, call) -> refuses(name + " to 1001", UNSUPPORTED, full, call));
        becomes("repeat to 1000", nearly, 1000, x -> x.repeat(0, 0, 1, 2),
                nearly.withText(0, "a" + Scene.letters(999)));
        refuses("repeat to 1001", UNSUPPORTED, full, x -> x.repeat(0, 0, 1, 2));
        becomes("copy of 1000", full, 1000, x -> x.copy(0, 0, 1000, 1), full.withText(1, most));
        becomes("four texts of 1000", Scene.of(most, most, most), 1000, x -> x.join(0, 3, 3),
                Scene.of(most, most, most, most));
    }

    private void bytes() {
        sentence("Terms", "bytes 0 .. 255");
        for (int b = 0; b < 256; b++) {
            Scene one = Scene.NEW.withText(1, String.valueOf((char) b));
            becomes("byte " + b, Scene.NEW, 1, writing(0xffffffffffffff00L | b), one);
            becomes("byte " + b + " below others that are 0", Scene.NEW, 1, writing(b), one);
        }
    }

    private static Ask writing(long number) {
        return x -> x.write(1, number, 1);
    }

    /** The text of 0 has five bytes. */
    private static Map<String, OfRange<Ask>> callsWithARange() {
        Map<String, OfRange<Ask>> calls = new LinkedHashMap<>();
        calls.put("copy", (from, to) -> x -> x.copy(0, from, to, 1));
        calls.put("copy to itself", (from, to) -> x -> x.copy(0, from, to, 0));
        calls.put("insert", (from, to) -> x -> x.insert(1, 0, 0, from, to));
        calls.put("insert into itself", (from, to) -> x -> x.insert(0, 0, 0, from, to));
        calls.put("delete", (from, to) -> x -> x.delete(0, from, to));
        calls.put("move", (from, to) -> x -> x.move(0, from, to, 0));
        calls.put("repeat", (from, to) -> x -> x.repeat(0, from, to, 2));
        calls.put("repeat 0 times", (from, to) -> x -> x.repeat(0, from, to, 0));
        calls.put("name", (from, to) -> x -> x.name(0, from, to));
        calls.put("count", (from, to) -> x -> x.count(0, from, to));
        calls.put("run", (from, to) -> x -> x.run(0, from, to, 7));
        calls.put("accepted", (from, to) -> x -> x.accepted(0, from, to, 7));
        return calls;
    }

    private void rangeInText() {
        boundary("Terms", "it is IN the text if 0 <= from <= to <= its length");
        callsWithARange().forEach((name, call) -> {
            for (int from = -2; from <= 7; from++) {
                for (int to = -2; to <= 7; to++) {
                    rangeInText(name + " " + from + " .. " + to, 0 <= from && from <= to && to <= 5, call.of(from, to));
                }
            }
        });
    }

    private void rangeInText(String what, boolean in, Ask call) {
        if (in) {
            takes(what, USUAL, call);
        } else {
            refuses(what, BOUNDS, USUAL, call);
        }
    }

    private void rangeWithoutBytes() {
        sentence("Terms", "none when from = to");
        for (int i : new int[] {0, 2, 5}) {
            noBytes(USUAL, 0, i);
        }
        noBytes(USUAL, 2, 0);
        Scene full = Scene.of("abcab", "xyz", Scene.letters(1000));
        noBytes(full, 2, 0);
        noBytes(full, 2, 1000);
    }

    private void noBytes(Scene scene, int d, int i) {
        int length = scene.text(d).length();
        String where = " at " + i + " of " + length;
        becomes("copy" + where, scene, 0, x -> x.copy(d, i, i, 1), scene.withText(1, ""));
        becomes("copy to itself" + where, scene, 0, x -> x.copy(d, i, i, d), scene.withText(d, ""));
        answers("insert" + where, scene, 3, x -> x.insert(1, 3, d, i, i));
        answers("insert into itself" + where, scene, length, x -> x.insert(d, i, d, i, i));
        answers("delete" + where, scene, length, x -> x.delete(d, i, i));
        answers("move" + where, scene, length, x -> x.move(d, i, i, 0));
        answers("move to the end" + where, scene, length, x -> x.move(d, i, i, length));
        answers("repeat" + where, scene, length, x -> x.repeat(d, i, i, 2));
        answers("same" + where, scene, true, x -> x.same(d, i, 1, 3, 0));
        answers("name" + where, scene, 0L, x -> x.name(d, i, i));
        answers("count" + where, scene, 0, x -> x.count(d, i, i));
        answers("run" + where, scene, 4, x -> x.run(d, i, i, 4));
        answers("accepted" + where, scene, 1, x -> x.accepted(d, i, i, 2));
        answers("accepted of another state" + where, scene, 0, x -> x.accepted(d, i, i, 3));
    }

    private void piece() {
        boundary("Terms", "The PIECE at i of a text, 0 <= i <= its length");
        for (int i = 0; i <= 5; i++) {
            int at = i;
            answers("prefix " + i, USUAL, 5 - i, x -> x.prefix(0, at, 0, at));
            answers("order " + i, USUAL, 0, x -> x.order(0, at, 0, at));
            answers("find " + i, USUAL, i == 0 ? 0 : i <= 3 ? 3 : -1, x -> x.find(0, at, 0));
        }
        int[] none = {-2, -1, 6, 7, MIN, MAX};
        refusesEach("prefix", BOUNDS, USUAL, none, i -> x -> x.prefix(0, i, 1, 0));
        refusesEach("prefix, the second", BOUNDS, USUAL, none, i -> x -> x.prefix(1, 0, 0, i));
        refusesEach("order", BOUNDS, USUAL, none, i -> x -> x.order(0, i, 1, 0));
        refusesEach("order, the second", BOUNDS, USUAL, none, i -> x -> x.order(1, 0, 0, i));
        refusesEach("find", BOUNDS, USUAL, none, i -> x -> x.find(0, i, 0));
    }

    private void nameOfNone() {
        sentence("Terms", "The NAME of a row of bytes is 0 for none");
        answersEach("in a new object", Scene.NEW, DOCUMENTS, d -> x -> x.name(d, 0, 0), d -> 0L);
        answersEach("in a text", USUAL, new int[] {0, 1, 5}, i -> x -> x.name(0, i, i), i -> 0L);
        sentence("Terms", "1000003 times the name of the row, plus b + 1");
        answers("byte 0", USUAL, 1L, x -> x.name(3, 0, 1));
        answers("byte 255", USUAL, 256L, x -> x.name(3, 1, 2));
        answers("both", USUAL, 1000259L, x -> x.name(3, 0, 2));
    }

    private void modulus() {
        sentence("Terms", "all modulo 2^61 - 1 (from 0 to 2^61 - 2)");
        named("the last row that stays below", "\1\u00ff\u00ff\u00ff",
                2 * 1000003L * 1000003L * 1000003L + 256L * 1000003L * 1000003L + 256L * 1000003L + 256L);
        named("the first row that wraps round", "\2\0\0\0",
                3 * 1000003L * 1000003L * 1000003L - MODULUS + 1000003L * 1000003L + 1000003L + 1L);
        String row = rowOf(131, 136, 144, 123, 138, 118, 138, 118, 130, 126, 129);
        namedWithin("the greatest name", row + "\u008f", MODULUS - 1);
        namedWithin("the name 0 of a row with bytes", row + "\u0090", 0L);
        namedWithin("the name behind it", row + "\u0091", 1L);
        named("a byte behind the name 0", row + "\u0090\u00ff", 256L);
        named("a byte behind the greatest name", row + "\u008f\0", MODULUS - 1000003L + 1L);
        String last31 = rowOf(128, 131, 130, 136, 110, 126, 118, 137, 109, 128, 136, 144);
        String first32 = rowOf(128, 131, 130, 136, 110, 126, 118, 137, 109, 128, 136, 145);
        named("the name 2^31 - 1", last31, (1L << 31) - 1);
        named("the name 2^31", first32, 1L << 31);
        named("a byte behind 2^31 - 1", last31 + "\u00ff", 1000003L * ((1L << 31) - 1) + 256L);
        named("a byte behind 2^31", first32 + "\0", 1000003L * (1L << 31) + 1L);
        named("a full text of 255", "\u00ff".repeat(1000), nameOf("\u00ff".repeat(1000)));
        named("a full text of 0", "\0".repeat(1000), nameOf("\0".repeat(1000)));
    }

    private void named(String what, String text, long name) {
        is(what + ", as told", name, () -> nameOf(text));
        answers(what, Scene.NEW.withText(2, text), name, x -> x.name(2, 0, text.length()));
    }

    private void namedWithin(String what, String text, long name) {
        named(what, text, name);
        Scene within = Scene.NEW.withText(2, "q" + text + "q");
        answers(what + ", in the midst of a text", within, name, x -> x.name(2, 1, 1 + text.length()));
    }

    private static String rowOf(int... bytes) {
        StringBuilder row = new StringBuilder();
        for (int b : bytes) {
            row.append((char) b);
        }
        return row.toString();
    }

    private void sizeOfThePattern() {
        boundary("Terms", "THE PATTERN is a row of 1 to 16 bytes; there is none at first");
        Scene none = USUAL.withoutPattern();
        refuses("none at first", STATE, none, x -> x.count(0, 0, 5));
        becomes("1 byte", none, "done", doing(x -> x.pattern('a', 0L, 1)), none.withPattern("a"));
        String most = "abcdefghijklmnop";
        becomes("16 bytes", none, "done",
                doing(x -> x.pattern(Scene.number(most, 0), Scene.number(most, 8), 16)), none.withPattern(most));
        refuses("0 bytes", ILLEGAL, none, doing(x -> x.pattern('a', 0L, 0)));
        refuses("17 bytes", ILLEGAL, none, doing(x -> x.pattern('a', 0L, 17)));
    }

    private void overlap() {
        sentence("Terms", "so it may stand at places whose bytes overlap");
        Scene same = Scene.of("aaaaa", "", "a".repeat(1000)).withPattern("aa");
        answers("two bytes in five", same, 4, x -> x.count(0, 0, 5));
        answersEach("the places", same, new int[] {0, 1, 2, 3}, k -> x -> x.find(0, 0, k), k -> k);
        Scene most = same.withPattern("a".repeat(16));
        answers("sixteen bytes in a full text", most, 985, x -> x.count(2, 0, 1000));
        answers("the last of them", most, 984, x -> x.find(2, 0, 984));
        answers("one more", most, -1, x -> x.find(2, 0, 985));
        Scene woven = Scene.of("abababa").withPattern("aba");
        answers("the ends overlap", woven, 3, x -> x.count(0, 0, 7));
        answersEach("the places", woven, new int[] {0, 1, 2}, k -> x -> x.find(0, 0, k), k -> 2 * k);
    }

    private void allInTheRange() {
        sentence("Terms",
                "It STANDS at a place of a range if its bytes are there, from that place on, all of them in the range");
        Scene scene = Scene.of("xabcx", "abc").withPattern("abc");
        answers("just the range", scene, 1, x -> x.count(0, 1, 4));
        answers("without the first byte", scene, 0, x -> x.count(0, 2, 5));
        answers("without the last byte", scene, 0, x -> x.count(0, 0, 3));
        answers("the whole text", scene, 1, x -> x.count(1, 0, 3));
        answers("a longer pattern than the text", scene.withPattern("abcd"), 0, x -> x.count(1, 0, 3));
        answers("find in the whole text", scene, 0, x -> x.find(1, 0, 0));
        answers("find behind its first byte", scene, -1, x -> x.find(1, 1, 0));
        answers("what stood behind the text's end is not there", scene, 0, x -> {
            x.delete(1, 2, 3);
            int count = x.count(1, 0, 2) + x.find(1, 0, 0) + 1;
            x.write(1, 'c', 1);
            return count;
        });
    }

    private void states() {
        boundary("Terms", "THE AUTOMATON has the STATES 0 .. 7");
        Scene scene = Scene.NEW.withText(0, "a");
        Map<String, IntFunction<Ask>> calls = new LinkedHashMap<>();
        calls.put("lead from", s -> doing(x -> x.lead(s, 0, 255, 1)));
        calls.put("lead to", s -> doing(x -> x.lead(1, 0, 255, s)));
        calls.put("accept", s -> doing(x -> x.accept(s, true)));
        calls.put("run", s -> x -> x.run(0, 0, 1, s));
        calls.put("accepted", s -> x -> x.accepted(0, 0, 1, s));
        calls.forEach((name, call) -> refusesEach(name, ILLEGAL, scene, NO_STATES, call));
        becomesEach("lead from", scene, STATES, calls.get("lead from"), s -> "done", s -> scene.withLead(s, 0, 255, 1));
        becomesEach("lead to", scene, STATES, calls.get("lead to"), s -> "done", s -> scene.withLead(1, 0, 255, s));
        becomesEach("accept", scene, STATES, calls.get("accept"), s -> "done", s -> scene.withAccept(s, true));
        answersEach("run", scene, STATES, calls.get("run"), s -> 0);
        answersEach("accepted", scene, STATES, calls.get("accepted"), s -> 0);
        sentence("Terms", "For each state and each byte there is a next state, at first 0");
        holds("all of them", Scene.NEW, PairedTexts::new);
        sentence("Terms", "each state ACCEPTS or not, at first none does");
        answersEach("none, s", Scene.NEW, STATES, s -> x -> x.accepted(0, 0, 0, s), s -> 0);
        becomesEach("one, s", Scene.NEW, STATES, s -> doing(x -> x.accept(s, true)), s -> "done",
                s -> Scene.NEW.withAccept(s, true));
    }

    private void reading() {
        sentence("Terms", "with each byte, in order, it comes to the next state");
        Scene scene = Scene.of("ab", "ba", "", "\0\u00ff\0");
        answers("in order", scene, 2, x -> x.run(0, 0, 2, 0));
        answers("in the other order", scene, 1, x -> x.run(1, 0, 2, 0));
        answersEach("no byte", scene, STATES, s -> x -> x.run(2, 0, 0, s), s -> s);
        answers("bytes 0 and 255", scene, 6, x -> x.run(3, 0, 3, 5));
        answers("byte 0 next to the bytes 1 .. 254", scene, 0, x -> x.run(3, 0, 1, 7));
        answers("byte 255 next to the bytes 1 .. 254", scene, 0, x -> x.run(3, 1, 2, 7));
    }

    private static Map<String, IntFunction<Ask>> callsWithADocument() {
        Map<String, IntFunction<Ask>> calls = new LinkedHashMap<>();
        calls.put("write", d -> x -> x.write(d, 'z', 1));
        calls.put("length", d -> x -> x.length(d));
        calls.put("byteAt", d -> x -> x.byteAt(d, 0));
        calls.put("copy d", d -> x -> x.copy(d, 0, 1, 1));
        calls.put("copy e", d -> x -> x.copy(1, 0, 1, d));
        calls.put("join d", d -> x -> x.join(d, 0, 1));
        calls.put("join e", d -> x -> x.join(0, d, 1));
        calls.put("join g", d -> x -> x.join(0, 1, d));
        calls.put("insert d", d -> x -> x.insert(d, 0, 0, 0, 1));
        calls.put("insert e", d -> x -> x.insert(0, 0, d, 0, 1));
        calls.put("delete", d -> x -> x.delete(d, 0, 1));
        calls.put("move", d -> x -> x.move(d, 0, 1, 1));
        calls.put("repeat", d -> x -> x.repeat(d, 0, 1, 2));
        calls.put("same d", d -> x -> x.same(d, 0, 0, 0, 1));
        calls.put("same e", d -> x -> x.same(0, 0, d, 0, 1));
        calls.put("prefix d", d -> x -> x.prefix(d, 0, 0, 0));
        calls.put("prefix e", d -> x -> x.prefix(0, 0, d, 0));
        calls.put("order d", d -> x -> x.order(d, 0, 0, 0));
        calls.put("order e", d -> x -> x.order(0, 0, d, 0));
        calls.put("name", d -> x -> x.name(d, 0, 1));
        calls.put("count", d -> x -> x.count(d, 0, 1));
        calls.put("find", d -> x -> x.find(d, 0, 0));
        calls.put("run", d -> x -> x.run(d, 0, 1, 0));
        calls.put("accepted", d -> x -> x.accepted(d, 0, 1, 0));
        return calls;
    }

    private void documents() {
        boundary("Terms", "In all calls, illegal argument: a document is not 0 .. 3");
        callsWithADocument().forEach((name, call) -> {
            for (int d : DOCUMENTS) {
                takes(name + " " + d, FOUR, call.apply(d));
            }
            refusesEach(name, ILLEGAL, FOUR, NO_DOCUMENTS, call);
        });
    }

    private void asTheyWereBefore() {
        sentence("Terms", "Whatever is told of a call's documents is meant of them as they were before it");
        Scene s = Scene.of("abcd", "xyz");
        becomes("copy to itself", s, 2, x -> x.copy(0, 1, 3, 0), s.withText(0, "bc"));
        becomes("copy the whole to itself", s, 4, x -> x.copy(0, 0, 4, 0), s);
        becomes("join to the first", s, 7, x -> x.join(0, 1, 0), s.withText(0, "abcdxyz"));
        becomes("join to the second", s, 7, x -> x.join(0, 1, 1), s.withText(1, "abcdxyz"));
        becomes("join with itself", s, 8, x -> x.join(0, 0, 1), s.withText(1, "abcdabcd"));
        becomes("join with itself to itself", s, 8, x -> x.join(0, 0, 0), s.withText(0, "abcdabcd"));
        becomes("insert into the range itself", s, 6, x -> x.insert(0, 2, 0, 1, 3), s.withText(0, "abbccd"));
        becomes("insert before the range", s, 6, x -> x.insert(0, 0, 0, 1, 3), s.withText(0, "bcabcd"));
        becomes("insert behind the range", s, 6, x -> x.insert(0, 4, 0, 1, 3), s.withText(0, "abcdbc"));
        becomes("insert the whole into itself", s, 8, x -> x.insert(0, 1, 0, 0, 4), s.withText(0, "aabcdbcd"));
        refuses("a place that would be there behind it", BOUNDS, s, x -> x.insert(0, 5, 0, 0, 4));
        refuses("a range that would be there behind it", BOUNDS, s, x -> x.insert(0, 4, 0, 0, 5));
        Scene halves = Scene.of(Scene.letters(500), Scene.letters(1000));
        becomes("what g was does not count", halves, 1000, x -> x.join(0, 0, 1),
                halves.withText(1, Scene.letters(500).repeat(2)));
        becomes("what e was does not count", halves, 500, x -> x.copy(0, 0, 500, 1),
                halves.withText(1, Scene.letters(500)));
        refuses("the first and the second are one", UNSUPPORTED, Scene.of(Scene.letters(501)), x -> x.join(0, 0, 0));
    }

    private void throwingChangesNothing() {
        sentence("Terms", "A call that throws changes nothing");
        Scene full = Scene.of(Scene.letters(1000), "xyz", "", "q");
        holds("many of them, one behind the other", full, () -> afterWrongCalls(full.make()));
        holds("many of them without a pattern", full.withoutPattern(),
                () -> afterWrongCalls(full.withoutPattern().make()));
        holds("a right call behind them", full.withText(3, "qxyz"), () -> {
            PairedTexts x = afterWrongCalls(full.make());
            x.join(3, 1, 3);
            return x;
        });
    }

    private PairedTexts afterWrongCalls(PairedTexts x) {
        Ask[] wrong = {y -> y.write(0, 1L, 1), y -> y.write(1, 1L, 9), y -> y.copy(1, 0, 4, 2), y -> y.copy(1, 0, 3, 4),
            y -> y.join(0, 1, 2), y -> y.join(1, 1, 4), y -> y.insert(0, 0, 1, 0, 1), y -> y.insert(1, 4, 3, 0, 1),
            y -> y.insert(1, 0, 3, 0, 2), y -> y.delete(1, 0, 4), y -> y.delete(1, 2, 1), y -> y.move(1, 0, 1, 3),
            y -> y.move(1, 2, 4, 0), y -> y.repeat(0, 0, 1, 2), y -> y.repeat(1, 0, 1, -1), y -> y.repeat(1, 0, 4, 0),
            doing(y -> y.pattern(1L, 1L, 17)), doing(y -> y.lead(0, 0, 256, 1)),
            doing(y -> y.lead(0, 0, 255, 8)), doing(y -> y.accept(8, true)), y -> y.byteAt(1, 3),
            y -> y.same(1, 0, 1, 0, 4), y -> y.prefix(1, 4, 1, 0), y -> y.order(1, 0, 1, 4), y -> y.name(1, 0, 4),
            y -> y.count(1, 0, 4), y -> y.find(1, 0, -1), y -> y.run(1, 0, 4, 0), y -> y.accepted(1, 0, 0, 8)};
        for (Ask call : wrong) {
            is("each of them throws", true, () -> Due.outcome(() -> call.of(x)).startsWith("throws."));
        }
        return x;
    }

    private void firstNamed() {
        sentence("Terms", "of several reasons the exception named first is thrown");
        Scene full = Scene.of(Scene.letters(1000), "xyz").withoutPattern();
        refuses("insert: document, place, range and room", ILLEGAL, full, x -> x.insert(0, 1001, 4, 0, 1001));
        refuses("insert: place, range and room", BOUNDS, full, x -> x.insert(0, 1001, 1, 0, 4));
        refuses("insert: room", UNSUPPORTED, full, x -> x.insert(0, 1000, 1, 0, 3));
        refuses("repeat: n, range and room", ILLEGAL, full, x -> x.repeat(0, 0, 1001, -2));
        refuses("repeat: range and room", BOUNDS, full, x -> x.repeat(0, 0, 1001, 2));
        refuses("repeat: room", UNSUPPORTED, full, x -> x.repeat(0, 0, 1000, 2));
        refuses("write: n and room", ILLEGAL, full, x -> x.write(0, 0L, 9));
        refuses("write: room", UNSUPPORTED, full, x -> x.write(0, 0L, 8));
        refuses("join: document and room", ILLEGAL, full, x -> x.join(0, 0, 4));
        refuses("join: room", UNSUPPORTED, full, x -> x.join(0, 0, 3));
        refuses("count: document, range and pattern", ILLEGAL, full, x -> x.count(4, 0, 1001));
        refuses("count: range and pattern", BOUNDS, full, x -> x.count(0, 0, 1001));
        refuses("count: pattern", STATE, full, x -> x.count(0, 0, 1000));
        refuses("find: k, place and pattern", ILLEGAL, full, x -> x.find(0, 1001, -1));
        refuses("find: place and pattern", BOUNDS, full, x -> x.find(0, 1001, 0));
        refuses("find: pattern", STATE, full, x -> x.find(0, 1000, 0));
        refuses("same: n and range", ILLEGAL, full, x -> x.same(0, 1001, 1, 4, -1));
        refuses("same: range", BOUNDS, full, x -> x.same(0, 1001, 1, 4, 0));
        refuses("run: state and range", ILLEGAL, full, x -> x.run(0, 0, 1001, 8));
        refuses("run: range", BOUNDS, full, x -> x.run(0, 0, 1001, 7));
    }
}
