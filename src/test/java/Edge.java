import java.io.IOException;
import java.nio.file.Files;
import java.nio.file.Path;
import java.util.ArrayList;
import java.util.List;
import java.util.Map;
import java.util.TreeMap;

/**
 * A sentence of the document under test. Each test of an edge begins with the promise's number (0:
 * the terms) and the sentence's own words; what is compared behind it is told under these. In the
 * end the sentences are looked up in the document, and nothing of it may be left without a test.
 */
final class Edge {
    static final int TERMS = 0;
    static final int PROMISES = 33;
    static final String MISSING = "missing";
    static final String ARGUMENT = "argument";
    static final String STATE = "state";
    private static final List<String> REASONS = List.of(MISSING, ARGUMENT, STATE);

    /** Makes the same object each time, so that two can be compared. */
    interface Maker {
        SlipSecret fresh();
    }

    interface Ask {
        long answer(SlipSecret x);
    }

    interface AskByNumber {
        long answer(int i);
    }

    private static final Map<Integer, List<String>> SENTENCES = new TreeMap<>();
    private static String label = "";

    private Edge() {
    }

    static void of(int promise, String sentence) {
        SENTENCES.computeIfAbsent(promise, k -> new ArrayList<>()).add(sentence);
        label = (promise == TERMS ? "terms" : "promise " + promise) + " '" + sentence + "' ";
    }

    static void due(String what, long want, long got) {
        Check.due(label + what, want, got);
    }

    static void same(String what, String want, String got) {
        Check.same(label + what, want, got);
    }

    /** Answers of one call for each of the numbers 0, 1 .. */
    static void row(String what, long[] want, AskByNumber ask) {
        for (int i = 0; i < want.length; i++) {
            due(what + " " + i, want[i], ask.answer(i));
        }
    }

    /** A call that is refused, for this reason alone, and leaves all as it was. */
    static void refused(String what, String reason, Maker maker, Ask ask) {
        SlipSecret x = maker.fresh();
        int[] before = counts(x);
        same(what, reason, Check.outcome(() -> ask.answer(x)));
        int[] after = counts(x);
        for (int i = 0; i < 3; i++) {
            due(what + ", counted as " + REASONS.get(i), REASONS.get(i).equals(reason) ? 1 : 0, after[i] - before[i]);
        }
        stays(what, maker, x);
    }

    /** The object is as one that was made alike, and what can be taken back from it is, too. */
    static void stays(String what, Maker maker, SlipSecret x) {
        SlipSecret other = maker.fresh();
        same(what + ", what stays", look(other), look(x));
        same(what + ", what can be taken back", takenBack(other), takenBack(x));
    }

    private static int[] counts(SlipSecret x) {
        return new int[] {x.status(0), x.status(1), x.status(2)};
    }

    /** All that can be asked without being refused, but for the counts of refusals. */
    static String look(SlipSecret x) {
        StringBuilder out = new StringBuilder();
        add(out, x.fault(), x.print(), x.nextPair(), x.needs(), x.ways(0), x.ways(1), x.ways(2));
        for (int what = 0; what <= 17; what++) add(out, x.told(what));
        for (int what = 0; what <= 3; what++) add(out, x.success(what));
        for (int ring = 0; ring < x.told(0); ring++) {
            for (int what = 0; what <= 4; what++) add(out, x.ring(ring, what));
        }
        for (int pair = 0; pair < x.told(1); pair++) {
            for (int what = 0; what <= 10; what++) add(out, x.pair(pair, what));
        }
        if (x.told(14) >= 0) {
            for (int what = 0; what <= 4; what++) add(out, x.leak(what));
            for (int what = 0; what <= 2; what++) add(out, x.safe(20, what));
            for (int what = 0; what <= 5; what++) add(out, x.recover(20, 1, what));
        }
        return out.toString();
    }

    private static void add(StringBuilder out, long... answers) {
        for (long answer : answers) out.append(answer).append(' ');
    }

    private static String takenBack(SlipSecret x) {
        StringBuilder out = new StringBuilder();
        for (int left = x.undo(), i = 0; left >= 0 && i < 20; left = x.undo(), i++) {
            add(out, left, x.print(), x.told(4), x.told(6), x.told(13), x.told(16));
        }
        return out.append(look(x)).toString();
    }

    /** A text with a fault, told to a new object. */
    static void fault(String text, int kind, int place) {
        SlipSecret x = new SlipSecret();
        due("text '" + text + "'", kind - 10, Check.tell(x, text));
        due("fault of '" + text + "'", place, x.fault());
    }

    /** A text without a fault: how many pairs it tells. */
    static SlipSecret good(String text, int pairs) {
        SlipSecret x = new SlipSecret();
        due("text '" + text + "'", pairs, Check.tell(x, text));
        due("fault of '" + text + "'", SlipSecret.NONE, x.fault());
        return x;
    }

    // ---- the document ----

    static void compareWithDocument() throws IOException {
        Path path = Path.of(System.getProperty("project", "."), "..", "shared", "DOC.md");
        String document = Files.readString(path);
        for (int promise = TERMS; promise <= PROMISES; promise++) {
            compareWith(section(document, promise), promise);
        }
    }

    private static void compareWith(String section, int promise) {
        StringBuilder left = new StringBuilder(section);
        for (String sentence : SENTENCES.getOrDefault(promise, List.of())) {
            String words = oneLine(sentence);
            int at = section.indexOf(words);
            Check.due("promise " + promise + " has the sentence '" + words + "'", 1, at >= 0 ? 1 : 0);
            for (int i = at; at >= 0 && i < at + words.length(); i++) {
                left.setCharAt(i, ' ');
            }
        }
        Check.same("promise " + promise + " without a test", "", oneLine(left.toString().replaceAll("[.;:,()]", " ")));
    }

    /** The terms, with the bound on calls, or a promise's words behind its signature. */
    private static String section(String document, int promise) {
        if (promise == TERMS) {
            String calls = between(document, "An object is used", "## The public face");
            return oneLine("An object is used" + calls + between(document, "## Terms", "## Promise 1:"));
        }
        String end = promise == PROMISES ? "## Not promised" : "## Promise " + (promise + 1) + ":";
        String whole = between(document, "## Promise " + promise + ":", end);
        return oneLine(whole.substring(whole.indexOf("`: ") + 3));
    }

    private static String between(String document, String start, String end) {
        int from = document.indexOf(start) + start.length();
        return document.substring(from, document.indexOf(end, from));
    }

    private static String oneLine(String text) {
        return text.replaceAll("```(text)?|==== \\d+\\.", " ").replaceAll("\\s+", " ").trim();
    }
}
