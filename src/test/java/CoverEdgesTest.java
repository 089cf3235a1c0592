import java.util.ArrayList;
import java.util.Arrays;
import java.util.List;

/** Each sentence that a test of an edge names stands in the document there, and none of the promises is left out. */
public final class CoverEdgesTest {
    private static final int PROMISES = 41;

    private static List<String> sentencesOf(int promise) {
        List<String> all = new ArrayList<>();
        for (Edges.Edge e : Edges.ALL) if (e.promise() == promise) all.add(e.sentence());
        return all;
    }

    /** Which characters of a text the sentences take. */
    private static boolean[] taken(String text, List<String> sentences, String where) {
        boolean[] taken = new boolean[text.length()];
        for (String s : sentences) {
            int at = text.indexOf(s);
            Edges.must("'" + s + "' stands in " + where, at >= 0);
            for (; at >= 0; at = text.indexOf(s, at + 1)) Arrays.fill(taken, at, at + s.length(), true);
        }
        return taken;
    }

    /** Every word of a promise is in a sentence that some test names. */
    private static void promise(String document, int number) {
        String text = Edges.promise(document, number);
        boolean[] taken = taken(text, sentencesOf(number), "promise " + number);
        StringBuilder left = new StringBuilder();
        for (int i = 0; i < taken.length; i++) {
            if (!taken[i] && Character.isLetterOrDigit(text.charAt(i))) left.append(text.charAt(i));
        }
        Edges.must("promise " + number + " is all named, but for '" + left + "'", left.length() == 0);
    }

    /** Every sentence of the terms, but the first one, which tells what follows, is touched by some test. */
    private static void terms(String document) {
        String text = Edges.terms(document);
        boolean[] taken = taken(text, sentencesOf(Edges.TERMS), "the terms");
        int from = text.indexOf(". ") + 1;
        for (int i = from; i < text.length(); i++) {
            boolean between = text.charAt(i - 1) == '.';
            if (text.charAt(i) != '.' || between || i + 1 < text.length() && text.charAt(i + 1) != ' ') continue;
            boolean any = false;
            for (int k = from; k <= i; k++) any |= taken[k];
            Edges.must("'" + text.substring(from, i + 1).trim() + "' is named", any);
            from = i + 1;
        }
    }

    public static void main(String[] args) {
        TapeEdgesTest.all();
        SendingEdgesTest.all();
        PowerEdgesTest.all();
        StateEdgesTest.all();
        TermEdgesTest.all();
        BlockEdgesTest.all();
        JudgeEdgesTest.all();
        NodeEdgesTest.all();
        MessageEdgesTest.all();
        String document = Edges.document();
        if (document == null) {
            System.out.println("the document is not at hand, so that no sentence is looked for");
            return;
        }
        for (int n = 1; n <= PROMISES; n++) promise(document, n);
        terms(document);
        Edges.end("");
    }
}
