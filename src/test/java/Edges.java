import java.io.IOException;
import java.nio.file.Files;
import java.nio.file.Path;
import java.util.ArrayList;
import java.util.List;

/**
 * Tests of edges: each names a promise's number and a sentence (or the part of one that names the edge),
 * just as it stands in the document there.
 */
final class Edges {
    static final int BAD = ChainHouse.BAD, IS_DOWN = ChainHouse.IS_DOWN, FULL = ChainHouse.FULL, NO = ChainHouse.NO;
    /** Stands for a promise's number where the sentence is none of a promise. */
    static final int TERMS = 0;
    private static final Path DOCUMENT = Path.of("..", "shared", "DOC.md");

    record Edge(int promise, String sentence, Runnable test) { }

    interface Way {
        void go(House h);
    }

    interface Call {
        long on(House h);
    }

    static final List<Edge> ALL = new ArrayList<>();
    private static Edge now;
    private static int asked, wrong;

    private Edges() {
    }

    static void edge(int promise, String sentence, Runnable test) {
        ALL.add(new Edge(promise, sentence, test));
    }

    static void term(String sentence, Runnable test) {
        edge(TERMS, sentence, test);
    }

    private static String name(Edge e) {
        return (e.promise == TERMS ? "terms" : "promise " + e.promise) + ", '" + e.sentence + "'";
    }

    static void due(String what, long got, long want) {
        asked++;
        if (got != want) fail(what + " answered " + got + ", due is " + want);
    }

    static void must(String what, boolean holds) {
        asked++;
        if (!holds) fail("not so: " + what);
    }

    private static void fail(String what) {
        wrong++;
        System.out.println((now == null ? "" : name(now) + ": ") + what);
    }

    static void run() {
        for (Edge e : ALL) {
            now = e;
            int before = asked;
            try {
                e.test.run();
            } catch (RuntimeException thrown) {
                fail("threw " + thrown);
            }
            if (asked == before) fail("nothing was asked");
        }
        now = null;
        end(ALL.size() + " edges, ");
    }

    static void end(String what) {
        System.out.println(what + asked + " answers, " + wrong + " are not as due");
        if (wrong != 0) System.exit(1);
    }

    // ---- the document

    /** The document, or null where it is not at hand. */
    static String document() {
        try {
            return Files.readString(DOCUMENT);
        } catch (IOException e) {
            return null;
        }
    }

    static String inOneLine(String text) {
        return text.replace("```text", " ").replace("```", " ").replaceAll("\\s+", " ").trim();
    }

    /** What stands behind a promise's face. */
    static String promise(String document, int number) {
        int from = document.indexOf("## Promise " + number + ":");
        int to = document.indexOf("\n## ", from + 1);
        String text = document.substring(from, to);
        return inOneLine(text.substring(text.indexOf("`: ") + 3));
    }

    /** All that is no promise: what it is, the terms, and what is not promised of later calls. */
    static String terms(String document) {
        String what = document.substring(document.indexOf("## What it is"), document.indexOf("## The public face"));
        String terms = document.substring(document.indexOf("## Terms"), document.indexOf("Ahead of the calls `feed`"));
        return inOneLine(what + " " + terms + " " + document.substring(document.indexOf("Nothing is promised beyond")));
    }

    // ---- refusals

    /**
     * A house with something of everything. Node 0: five plain blocks behind the FIRST one, a POOL of one, an
     * ORPHAN. Node 1: a FUSE. Node 2: DOWN. Five messages of KIND 1 and one of KIND 6 from 0 to 1, an INPUT
     * and two OUTPUTS in the draft, 40 bytes on the tape.
     */
    static void furnish(House h) {
        h.link(0, 1, 2);
        h.link(1, 2, 9);
        h.grow(0, 1, 5);
        h.drawCoin(0, 4000, 1).give(0, 6);
        h.give(0, Plain.fork(Plain.block(20), 21, 5000, 1));
        h.fuse(1, 500);
        h.down(2);
        h.begin();
        h.spend(0, 1, 0);
        h.pay(1, 2);
        h.output(5, 6);
        h.feed(1, 2, 3, 4, 5);
        h.feed(6, 7, 8, 9, 10);
    }

    /** A call on a furnished house is refused, and changes nothing. */
    static void refused(String name, Call call, long want) {
        changesNothing(3, Edges::furnish, name, call, want);
    }

    static void refused(int nodes, Way way, String name, Call call, long want) {
        changesNothing(nodes, way, name, call, want);
    }

    /**
     * A call answers so, and changes nothing: pairs of houses go the same way, one of each with the call
     * behind it; then all that can be seen of them is the same.
     */
    static void changesNothing(int nodes, Way way, String name, Call call, long want) {
        for (List<Call> group : sights(nodes)) {
            House without = new House(nodes), with = new House(nodes);
            way.go(without);
            way.go(with);
            due(name, call.on(with), want);
            for (int i = 0; i < group.size(); i++) {
                due(name + " changes nothing, sight " + i, group.get(i).on(with), group.get(i).on(without));
            }
        }
    }

    private static List<List<Call>> sights(int nodes) {
        List<List<Call>> all = new ArrayList<>(List.of(sightsOfHouse(nodes), sightsOfQueue()));
        for (int n = 0; n < nodes; n++) {
            int node = n;
            all.add(sightsOfBlocks(node));
            List<Call> disk = new ArrayList<>();
            for (int i = 0; i < 220; i++) {
                int place = i;
                // Where there are records, and where the next would stand.
                disk.add(h -> h.peek(node, place < 110 ? place : 545 - 110 + place));
            }
            all.add(disk);
        }
        return all;
    }

    private static List<Call> sightsOfHouse(int nodes) {
        List<Call> all = new ArrayList<>();
        for (int w = 0; w < 11; w++) {
            int what = w;
            all.add(h -> h.house(what));
            for (int n = 0; n < nodes; n++) {
                int node = n;
                all.add(h -> h.told(node, what));
                all.add(h -> h.due(node, what));
            }
        }
        for (int k = 0; k < 4; k++) {
            int limb = k;
            all.add(h -> h.hash(false, limb));
        }
        // The draft is seen by what is signed, links by what they were, lost ones by what is asked of them.
        all.add(h -> h.sign(7));
        all.add(h -> h.hash(false, 0));
        for (int n = 0; n < nodes; n++) {
            int node = n;
            all.add(h -> h.reload(Plain.fork(Plain.block(20), 21, 5000, 1)).give(node, 5));
            all.add(h -> h.house(4));
        }
        all.add(h -> h.tick(2));
        all.add(h -> h.house(2));
        for (int a = 0; a < nodes; a++) {
            for (int b = 0; b < a; b++) {
                int one = a, other = b;
                all.add(h -> h.link(one, other, 0));
            }
        }
        return all;
    }

    private static List<Call> sightsOfQueue() {
        List<Call> all = new ArrayList<>();
        for (int m = 0; m < 8; m++) {
            int k = m;
            for (int w = 0; w < 5; w++) {
                int what = w;
                all.add(h -> h.message(k, what));
            }
            for (int i = 0; i < 40; i += 3) {
                int place = i;
                all.add(h -> h.messageByte(k, place));
            }
        }
        return all;
    }

    private static List<Call> sightsOfBlocks(int node) {
        List<Call> all = new ArrayList<>();
        for (int b = 0; b < 8; b++) {
            int k = b;
            for (int w = 0; w < 13; w++) {
                int what = w;
                all.add(h -> h.limb(node, k, what));
                if (w < 7) all.add(h -> h.block(node, k, what));
                if (w < 6) all.add(h -> h.unspent(node, k, what));
                if (w < 3) all.add(h -> h.pooled(node, k, what));
            }
            all.add(h -> h.at(node, k));
        }
        return all;
    }
}
