/** Edges of promises 27 to 31: power, fuses, bytes of disks. */
public final class PowerEdgesTest {
    private static final int BAD = Edges.BAD, IS_DOWN = Edges.IS_DOWN, NO = Edges.NO;
    private static final int LEAST = Integer.MIN_VALUE, MOST = Integer.MAX_VALUE;
    private static final int[] NO_NODES = {-1, 3, LEAST, MOST};
    private static final int LAST = 12287;

    private static void due(String what, long got, long want) {
        Edges.due(what, got, want);
    }

    static void all() {
        downs();
        ups();
        fuses();
        peeks();
        pokes();
    }

    private static void downs() {
        Edges.edge(27, "A node goes DOWN: how many blocks it had STORED.", () -> {
            House h = new House(2).grow(0, 1, 3);
            h.give(0, Plain.fork(Plain.block(1), 2, 2000, 5));
            due("down(0), with one beside its chain", h.down(0), 5);
            due("told(0, 0)", h.told(0, 0), 0);
            due("told(1, 0) of the other", h.told(1, 0), 1);
            due("down(1), with the FIRST one alone", h.down(1), 1);
        });
        Edges.edge(27, "BAD, IS_DOWN.", () -> {
            for (int node : NO_NODES) Edges.refused("down(" + node + ")", h -> h.down(node), BAD);
        });
        Edges.edge(27, "BAD, IS_DOWN.", () -> {
            Edges.refused("down(2)", h -> h.down(2), IS_DOWN);
            House h = new House(1);
            h.fuse(0, 0);
            h.give(0, Plain.block(1));
            due("down of a node whose FUSE ended", h.down(0), IS_DOWN);
        });
    }

    private static void ups() {
        Edges.edge(28, "A node that is DOWN is UP again: how many blocks it has.", () -> {
            House h = new House(2).grow(0, 1, 3);
            h.down(0);
            h.down(1);
            due("up(0)", h.up(0), 4);
            due("up(1), with an empty disk", h.up(1), 1);
            due("told(0, 0)", h.told(0, 0), 1);
            due("its TIP's HEIGHT", h.told(0, 3), 3);
            due("what is UNSPENT", h.told(0, 4), 4);
            due("the next block", h.give(0, Plain.block(4)), 0);
        });
        Edges.edge(28, "BAD", () -> {
            for (int node : NO_NODES) Edges.refused("up(" + node + ")", h -> h.up(node), BAD);
        });
        Edges.edge(28, "NO: it is UP.", () -> {
            Edges.refused("up(0)", h -> h.up(0), NO);
            Edges.refused("up(1)", h -> h.up(1), NO);
        });
    }

    private static void fuses() {
        Edges.edge(29, "A node's disk can be written n bytes more", () -> {
            for (int n : new int[] {0, 1, 108}) {
                House h = new House(1);
                h.fuse(0, n);
                due("told(0, 8)", h.told(0, 8), n);
                due("give with a FUSE of " + n, h.give(0, Plain.block(1)), IS_DOWN);
            }
            for (int n : new int[] {109, 110, MOST}) {
                House h = new House(1);
                h.fuse(0, n);
                due("give with a FUSE of " + n, h.give(0, Plain.block(1)), 0);
                due("told(0, 8)", h.told(0, 8), n - 109);
            }
        });
        Edges.edge(29, "A node's disk can be written n bytes more", () -> {
            House h = new House(1);
            h.fuse(0, 10);
            h.fuse(0, 300);
            due("the one before does not count", h.told(0, 8), 300);
            due("block 1", h.give(0, Plain.block(1)), 0);
            due("block 2", h.give(0, Plain.block(2)), 0);
            due("told(0, 8)", h.told(0, 8), 300 - 218);
            due("block 3", h.give(0, Plain.block(3)), IS_DOWN);
        });
        Edges.edge(29, "(below 0: without end)", () -> {
            for (int n : new int[] {-1, -2, LEAST}) {
                House h = new House(1);
                h.fuse(0, 5);
                due("fuse(0, " + n + ")", h.fuse(0, n), 0);
                due("told(0, 8)", h.told(0, 8), NO);
                due("block 1", h.give(0, Plain.block(1)), 0);
                due("told(0, 8)", h.told(0, 8), NO);
            }
        });
        Edges.edge(29, "BAD, IS_DOWN: 0 else.", () -> {
            House h = new House(1);
            for (int n : new int[] {0, 7, MOST, -1, LEAST}) due("fuse(0, " + n + ")", h.fuse(0, n), 0);
        });
        Edges.edge(29, "BAD, IS_DOWN: 0 else.", () -> {
            for (int node : NO_NODES) Edges.refused("fuse(" + node + ", 7)", h -> h.fuse(node, 7), BAD);
        });
        Edges.edge(29, "BAD, IS_DOWN: 0 else.", () -> {
            for (int n : new int[] {7, 0, -1}) Edges.refused("fuse(2, " + n + ")", h -> h.fuse(2, n), IS_DOWN);
            House h = new House(1);
            h.down(0);
            h.fuse(0, 7);
            h.up(0);
            due("told(0, 8)", h.told(0, 8), NO);
        });
    }

    private static void peeks() {
        Edges.edge(30, "Byte i of a node's disk.", () -> {
            House h = new House(2);
            due("peek(0, 0)", h.peek(0, 0), 0);
            due("peek(0, 12287), the last one", h.peek(0, LAST), 0);
            h.give(0, Plain.block(1));
            h.diskIs("node 0", 0, 0, Plain.record(0, Plain.block(1)));
            for (int i = 0; i < 109; i++) due("peek(1, " + i + ") of the other", h.peek(1, i), 0);
            h.down(0);
            due("peek of a node that is DOWN", h.peek(0, 1), 103);
        });
        Edges.edge(30, "BAD.", () -> {
            for (int i : new int[] {-1, LAST + 1, LEAST, MOST}) Edges.refused("peek(0, " + i + ")", h -> h.peek(0, i), BAD);
        });
        Edges.edge(30, "BAD.", () -> {
            for (int node : NO_NODES) Edges.refused("peek(" + node + ", 0)", h -> h.peek(node, 0), BAD);
        });
    }

    private static void pokes() {
        Edges.edge(31, "Byte i of a node's disk becomes the lowest 8 bits of b: what it was.", () -> {
            House h = new House(2);
            for (int i : new int[] {0, LAST}) {
                due("poke(0, " + i + ", 255)", h.poke(0, i, 255), 0);
                due("poke(0, " + i + ", 0x17F)", h.poke(0, i, 0x17F), 255);
                due("peek(0, " + i + ")", h.peek(0, i), 127);
                due("poke(0, " + i + ", -2)", h.poke(0, i, -2), 127);
                due("poke(0, " + i + ", 256)", h.poke(0, i, 256), 254);
                due("peek(0, " + i + ")", h.peek(0, i), 0);
                due("peek(1, " + i + ") of the other", h.peek(1, i), 0);
            }
            h.down(1);
            due("poke of a node that is DOWN", h.poke(1, 5, 9), 0);
            due("peek of it", h.peek(1, 5), 9);
        });
        Edges.edge(31, "BAD.", () -> {
            for (int i : new int[] {-1, LAST + 1, LEAST, MOST}) Edges.refused("poke(0, " + i + ", 1)", h -> h.poke(0, i, 1), BAD);
        });
        Edges.edge(31, "BAD.", () -> {
            for (int node : NO_NODES) Edges.refused("poke(" + node + ", 0, 1)", h -> h.poke(node, 0, 1), BAD);
        });
        Edges.edge(31, "(What a node has does not change by that, till it is UP again.)", () -> {
            House h = new House(1).grow(0, 1, 3);
            // The length of the first record, and bytes of the blocks themselves.
            for (int i : new int[] {0, 1, 2, 109 + 80, 218 + 50}) h.poke(0, i, 0);
            due("blocks STORED", h.told(0, 1), 4);
            due("where the next would stand", h.told(0, 7), 327);
            due("UNSPENT", h.told(0, 4), 4);
            due("take(0, 1)", h.take(0, 1), 103);
            h.tapeIs("block 1", Plain.block(1));
            h.cut(103);
            due("block 4", h.give(0, Plain.block(4)), 0);
            due("down(0)", h.down(0), 5);
            due("up(0)", h.up(0), 1);
            due("where the next would stand", h.told(0, 7), 0);
        });
        Edges.edge(31, "(What a node has does not change by that, till it is UP again.)", () -> {
            House h = new House(1);
            h.pokeAll(0, 0, Plain.record(0, Plain.block(1)));
            due("blocks STORED", h.told(0, 1), 1);
            h.down(0);
            due("up(0)", h.up(0), 2);
        });
    }

    public static void main(String[] args) {
        all();
        Edges.run();
    }
}
