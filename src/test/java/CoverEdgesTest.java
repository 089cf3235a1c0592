import java.util.ArrayList;
import java.util.Arrays;
import java.util.List;

/** Each sentence that a test of an edge names stands in the document there, and none of the promises is left out. */
public final class CoverEdgesTest {
    private static final int PROMISES = 41;
    private static final String[] UNTESTED = {
        "## What it is A house of nodes that keep a chain of blocks by work: hashes, one-time signatures, transactions with outputs that are "
            + "spent, blocks found by trying numbers, a tree of blocks on a disk that may be cut at any byte, the chain of most work, what is "
            + "unspent on it, a pool, messages between nodes that come late, get lost or are forged, headers first.",
        "======== 1 HASHES AND KEYS", "## Terms", "======== 2 TRANSACTIONS AND BLOCKS", "======== 3 NODES", "======== 4 MESSAGES",
        "Nothing is promised beyond the answers and state changes described above,",
    };

    private static List<String> sentencesOf(int promise) {
        List<String> all = new ArrayList<>();
        for (Edges.Edge e : Edges.ALL) if (e.promise() == promise) all.add(e.sentence());
        return all;
    }

    /** Which characters of a text the sentences take. */
    private static boolean[] taken(String text, List<String> sentences, String where) {
        boolean[] taken = new boolean[text.length()];
        for (String s : sentences) {
            int at = text.indexOf(s);
            Edges.must("'" + s + "' stands in " + where, at >= 0);
            for (; at >= 0; at = text.indexOf(s, at + 1)) Arrays.fill(taken, at, at + s.length(), true);
        }
        return taken;
    }

    /** Every word of a promise is in a sentence that some test names. */
    private static void promise(String document, int number) {
        String text = Edges.promise(document, number);
        left("promise " + number, text, taken(text, sentencesOf(number), "promise " + number));
    }

    private static void left(String where, String text, boolean[] taken) {
        StringBuilder left = new StringBuilder();
        for (int i = 0; i < taken.length; i++) {
            if (!taken[i] && Character.isLetterOrDigit(text.charAt(i))) left.append(text.charAt(i));
        }
        Edges.must(where + " is all named, but for '" + left + "'", left.length() == 0);
    }

    /** Every word of the terms is in a sentence that some test names, but for headings and what tells nothing to test. */
    private static void terms(String document) {
        String text = Edges.terms(document);
        List<String> named = sentencesOf(Edges.TERMS);
        named.addAll(List.of(UNTESTED));
        left("the terms", text, taken(text, named, "the terms"));
    }

    public static void main(String[] args) {
        TapeEdgesTest.all();
        SendingEdgesTest.all();
        PowerEdgesTest.all();
        StateEdgesTest.all();
        TermEdgesTest.all();
        BlockEdgesTest.all();
        JudgeEdgesTest.all();
        NodeEdgesTest.all();
        MessageEdgesTest.all();
        LayoutEdgesTest.all();
        String document = Edges.document();
        if (document == null) {
            System.out.println("the document is not at hand, so that no sentence is looked for");
            return;
        }
        for (int n = 1; n <= PROMISES; n++) promise(document, n);
        terms(document);
        Edges.end("");
    }
}
