/** Edges of promises 18 to 26: judging, giving, posting, links, ticks, messages of the queue. */
public final class SendingEdgesTest {
    private static final int BAD = Edges.BAD, IS_DOWN = Edges.IS_DOWN;
    private static final int LEAST = Integer.MIN_VALUE, MOST = Integer.MAX_VALUE;
    private static final byte[] ORPHAN = Plain.fork(Plain.block(9), 10, 5000, 3);

    private static void due(String what, long got, long want) {
        Edges.due(what, got, want);
    }

    static void all() {
        judging();
        giving();
        givingRefused();
        posting();
        linking();
        ticking();
        messages();
        altering();
        losing();
        notAnyMore();
    }

    // ---- 18

    private static void judging() {
        Edges.edge(18, "The TAPE, which stays, is judged by a node as a BLOCK (KIND 5) or TRANSACTION (6)", () -> {
            House h = new House(2).grow(0, 1, 4);
            h.load(Plain.block(5));
            due("judge(0, 5)", h.judge(0, 5), 0);
            due("judge(1, 5) of a node without the block before", h.judge(1, 5), 6);
            due("judge(0, 6) of a block", h.judge(0, 6), 1);
            h.tapeIs("the block", Plain.block(5));
            byte[] tx = Plain.draw(0, 1, 1);
            h.reload(tx);
            due("judge(0, 6)", h.judge(0, 6), 0);
            due("judge(1, 6) where it is not ripe", h.judge(1, 6), 10);
            due("judge(0, 5) of a transaction", h.judge(0, 5), 1);
            h.tapeIs("the transaction", tx);
        });
        Edges.edge(18, "and nothing is done: its number.", () -> {
            byte[] right = Plain.block(3), tx = Plain.draw(0, 1, 1);
            Edges.Way two = h -> {
                h.link(0, 1, 1);
                h.grow(0, 1, 2);
            };
            Edges.changesNothing(2, two, "judge of nothing as a block", h -> h.judge(0, 5), 1);
            Edges.changesNothing(2, two, "judge of nothing as a transaction", h -> h.judge(0, 6), 1);
            Edges.changesNothing(2, h -> load(h, two, right), "judge of a right block", h -> h.judge(0, 5), 0);
            Edges.changesNothing(2, h -> load(h, two, ORPHAN), "judge of an orphan", h -> h.judge(0, 5), 6);
            Edges.changesNothing(2, h -> load(h, k -> k.grow(0, 1, 3), tx), "judge of a right transaction", h -> h.judge(0, 6), 0);
            Edges.changesNothing(2, h -> {
                load(h, two, right);
                h.fuse(0, 0);
            }, "judge with a FUSE of 0", h -> h.judge(0, 5), 0);
        });
        Edges.edge(18, "BAD, IS_DOWN.", () -> {
            for (int node : new int[] {-1, 3, LEAST, MOST}) {
                for (int kind : new int[] {5, 6}) Edges.refused("judge(" + node + ", " + kind + ")", h -> h.judge(node, kind), BAD);
            }
        });
        Edges.edge(18, "BAD, IS_DOWN.", () -> {
            for (int kind : new int[] {-1, 0, 1, 4, 7, LEAST, MOST}) Edges.refused("judge(0, " + kind + ")", h -> h.judge(0, kind), BAD);
        });
        Edges.edge(18, "BAD, IS_DOWN.", () -> {
            for (int kind : new int[] {5, 6}) Edges.refused("judge(2, " + kind + ")", h -> h.judge(2, kind), IS_DOWN);
            for (int kind : new int[] {4, 7}) Edges.refused("judge(2, " + kind + ")", h -> h.judge(2, kind), BAD);
        });
    }

    private static void load(House h, Edges.Way way, byte[] tape) {
        way.go(h);
        h.load(tape);
    }

    // ---- 19

    private static void giving() {
        Edges.edge(19, "The TAPE, which is empty then", () -> {
            House h = new House(1).grow(0, 1, 3);
            byte[][] blocks = {new byte[0], new byte[20], Plain.block(1), Plain.block(4), ORPHAN};
            int[] judged = {1, 1, 2, 0, 6};
            for (int i = 0; i < blocks.length; i++) {
                due("give of a block", h.give(0, blocks[i]), judged[i]);
                due("bytes of the TAPE", h.house(5), 0);
            }
            byte[][] txs = {new byte[0], new byte[20], Lab.reward(1, 1, 1), Plain.draw(0, 1, 1), Plain.draw(0, 1, 1)};
            int[] judgedTx = {1, 1, 5, 0, 2};
            for (int i = 0; i < txs.length; i++) {
                due("give of a transaction", h.giveTx(0, txs[i]), judgedTx[i]);
                due("bytes of the TAPE", h.house(5), 0);
            }
        });
        Edges.edge(19, "comes to a node as a message of KIND 5 or 6 from nobody, at once", () -> {
            House h = new House(3).grow(0, 1, 3);
            h.link(0, 1, 1);
            h.link(0, 2, 9);
            due("give of a block", h.give(0, Plain.block(4)), 0);
            due("it is STORED", h.told(0, 1), 5);
            h.messageIs("to 1", 0, new int[] {0, 1, 1, 1}, Plain.hash(4));
            h.messageIs("to 2", 1, new int[] {0, 2, 1, 9}, Plain.hash(4));
            due("messages", h.house(2), 2);
            due("give of an orphan", h.give(0, ORPHAN), 6);
            due("what is asked of nobody is gone", h.house(4), 1);
            due("messages", h.house(2), 2);
            due("give of a transaction", h.giveTx(0, Plain.draw(0, 1, 1)), 0);
            due("it is sent on to both", h.house(2), 4);
            due("TICK", h.house(1), 0);
            due("it is none of the QUEUE", h.told(0, 9), 0);
        });
        Edges.edge(19, "the number by which it is judged", () -> {
            House h = new House(1);
            due("give of a wrong block", h.give(0, Lab.craft(Plain.hash(0), 1000, Lab.EASIEST, Lab.reward(1, 1, 1))), 8);
            due("give of a block in another KIND", h.giveTx(0, Plain.block(1)), 1);
            due("a refused one is none of the QUEUE", h.told(0, 10), 0);
            due("told(0, 1)", h.told(0, 1), 1);
        });
        Edges.edge(19, "IS_DOWN, if the FUSE ended, too.", () -> {
            House h = new House(2);
            h.link(0, 1, 1);
            h.fuse(0, 108);
            due("give with one byte too few", h.give(0, Plain.block(1)), IS_DOWN);
            due("it is DOWN", h.told(0, 0), 0);
            due("bytes of the TAPE", h.house(5), 0);
            due("nothing else is done", h.house(2), 0);
            h.fuse(1, 109);
            due("give with just enough", h.give(1, Plain.block(1)), 0);
            due("it is UP", h.told(1, 0), 1);
        });
        Edges.edge(19, "IS_DOWN, if the FUSE ended, too.", () -> {
            House h = new House(1);
            due("give of an orphan", h.give(0, Plain.block(2)), 6);
            h.fuse(0, 109 + 108);
            due("give: the FUSE ends with the orphan behind it", h.give(0, Plain.block(1)), IS_DOWN);
            due("it is DOWN", h.told(0, 0), 0);
        });
    }

    private static void givingRefused() {
        Edges.edge(19, "BAD, IS_DOWN.", () -> {
            for (int node : new int[] {-1, 3, LEAST, MOST}) {
                for (int kind : new int[] {5, 6}) Edges.refused("give(" + node + ", " + kind + ")", h -> h.give(node, kind), BAD);
            }
        });
        Edges.edge(19, "BAD, IS_DOWN.", () -> {
            for (int kind : new int[] {-1, 0, 1, 4, 7, LEAST, MOST}) Edges.refused("give(0, " + kind + ")", h -> h.give(0, kind), BAD);
        });
        Edges.edge(19, "BAD, IS_DOWN.", () -> {
            for (int kind : new int[] {5, 6}) Edges.refused("give(2, " + kind + ")", h -> h.give(2, kind), IS_DOWN);
            for (int kind : new int[] {4, 7}) Edges.refused("give(2, " + kind + ")", h -> h.give(2, kind), BAD);
        });
    }

    // ---- 20

    private static void posting() {
        Edges.edge(20, "The TAPE, which is empty then, is sent by a node as a message of a KIND: 1", () -> {
            House h = new House(2);
            h.link(0, 1, 3);
            for (int kind = 1; kind <= 6; kind++) {
                h.feed(kind, 0, 0, 0, 9);
                due("post(1, 0, " + kind + ")", h.post(1, 0, kind), 1);
                due("bytes of the TAPE", h.house(5), 0);
                h.messageIs("it", kind - 1, new int[] {1, 0, kind, 3}, Model.join(Model.bytes(kind), new byte[15], new byte[] {9}));
            }
            due("post of nothing", h.post(0, 1, 1), 1);
            h.messageIs("nothing", 6, new int[] {0, 1, 1, 3}, new byte[0]);
        });
        Edges.edge(20, "The TAPE, which is empty then, is sent by a node as a message of a KIND: 1", () -> {
            House h = new House(2);
            h.link(0, 1, 1);
            for (int n = 20; n <= 4000; n += 20) h.feed(n, 0, 0, 0, n);
            due("post of 4000 bytes", h.post(0, 1, 5), 1);
            due("its bytes", h.message(0, 4), 4000);
            due("its last byte", h.messageByte(0, 3999), 4000 & 255);
        });
        Edges.edge(20, "or 0 if it is gone.", () -> {
            House h = new House(3);
            h.link(0, 1, 1);
            h.feed(1, 2, 3, 4, 5);
            due("post without LINK", h.post(0, 2, 1), 0);
            due("bytes of the TAPE", h.house(5), 0);
            due("gone", h.house(4), 1);
            for (int i = 0; i < 200; i++) due("post", h.post(0, 1, 1), 1);
            h.feed(1, 2, 3, 4, 5);
            due("post without room", h.post(0, 1, 1), 0);
            due("bytes of the TAPE", h.house(5), 0);
            due("gone", h.house(4), 2);
        });
        Edges.edge(20, "BAD: from and to are one", () -> {
            for (int node = 0; node < 3; node++) {
                int n = node;
                Edges.refused("post(" + n + ", " + n + ", 1)", h -> h.post(n, n, 1), BAD);
            }
        });
        Edges.edge(20, "or no KIND.", () -> {
            for (int kind : new int[] {0, 7, -1, LEAST, MOST}) Edges.refused("post(0, 1, " + kind + ")", h -> h.post(0, 1, kind), BAD);
        });
        Edges.edge(20, "BAD: from and to are one, or no KIND.", () -> {
            for (int node : new int[] {-1, 3, LEAST, MOST}) {
                Edges.refused("post(0, " + node + ", 1)", h -> h.post(0, node, 1), BAD);
                Edges.refused("post(" + node + ", 0, 1)", h -> h.post(node, 0, 1), BAD);
            }
        });
        Edges.edge(20, "(from may be DOWN.)", () -> {
            House h = new House(2);
            h.link(0, 1, 1);
            h.down(0);
            due("post by a node that is DOWN", h.load(Plain.block(1)).post(0, 1, 5), 1);
            due("tick(1)", h.tick(1), 1);
            due("it is STORED", h.told(1, 1), 2);
            due("post to a node that is DOWN", h.post(1, 0, 1), 1);
        });
    }

    // ---- 21

    private static void linking() {
        Edges.edge(21, "Two nodes are LINKED with a DELAY (0: not any more): what it was.", () -> {
            House h = new House(6);
            due("link(0, 5, 1)", h.link(0, 5, 1), 0);
            due("link(5, 0, 9), the other way round", h.link(5, 0, 9), 1);
            due("link(0, 5, 9)", h.link(0, 5, 9), 9);
            due("link(0, 5, 0)", h.link(0, 5, 0), 9);
            due("post without LINK", h.post(0, 5, 1), 0);
            due("post without LINK", h.post(5, 0, 1), 0);
            due("link(0, 5, 0) again", h.link(0, 5, 0), 0);
            due("link(4, 5, 0) of others", h.link(4, 5, 0), 0);
            h.down(3);
            due("link of a node that is DOWN", h.link(3, 2, 4), 0);
            due("link of a node that is DOWN", h.link(2, 3, 4), 4);
        });
        Edges.edge(21, "BAD: they are one", () -> {
            for (int delay : new int[] {0, 1}) Edges.refused("link(1, 1, " + delay + ")", h -> h.link(1, 1, delay), BAD);
        });
        Edges.edge(21, "another DELAY.", () -> {
            for (int delay : new int[] {-1, 10, LEAST, MOST}) Edges.refused("link(0, 1, " + delay + ")", h -> h.link(0, 1, delay), BAD);
        });
        Edges.edge(21, "BAD: they are one, another DELAY.", () -> {
            for (int node : new int[] {-1, 3, LEAST, MOST}) {
                Edges.refused("link(0, " + node + ", 1)", h -> h.link(0, node, 1), BAD);
                Edges.refused("link(" + node + ", 0, 1)", h -> h.link(node, 0, 1), BAD);
            }
        });
    }

    // ---- 22

    private static void ticking() {
        Edges.edge(22, "So many TICKS (1 .. 64)", () -> {
            House h = new House(1);
            due("tick(1)", h.tick(1), 0);
            due("TICK", h.house(1), 1);
            due("tick(64)", h.tick(64), 0);
            due("TICK", h.house(1), 65);
            due("tick(63)", h.tick(63), 0);
            due("TICK", h.house(1), 128);
        });
        Edges.edge(22, "how many messages were received.", () -> {
            House h = new House(4);
            h.link(0, 1, 1);
            h.link(0, 2, 2);
            h.link(0, 3, 9);
            h.down(2);
            for (int to = 1; to <= 3; to++) due("post", h.post(0, to, 1), 1);
            due("post", h.post(1, 0, 4), 1);
            due("tick(2): two come, one comes to a node that is DOWN", h.tick(2), 2);
            due("gone", h.house(4), 1);
            due("one is underway", h.house(2), 1);
            due("tick(5)", h.tick(5), 0);
            due("tick(1)", h.tick(1), 0);
            due("tick(1): what is told at TICK 8 comes, and the last one", h.tick(1), 3);
        });
        Edges.edge(22, "BAD.", () -> {
            for (int n : new int[] {0, 65, -1, LEAST, MOST}) Edges.refused("tick(" + n + ")", h -> h.tick(n), BAD);
        });
    }

    // ---- 23, 24

    private static void messages() {
        Edges.edge(23, "Message k of the QUEUE, from 0 in the order in which they were sent", () -> {
            House h = new House(3);
            h.link(0, 1, 9);
            h.link(0, 2, 1);
            h.link(1, 2, 4);
            h.post(0, 1, 1);
            h.post(2, 0, 2);
            h.post(1, 2, 3);
            for (int k = 0; k < 3; k++) due("KIND of message " + k, h.message(k, 2), k + 1);
            due("tick(1): the second one comes", h.tick(1), 1);
            h.post(2, 0, 4);
            int[] kinds = {1, 3, 4};
            for (int k = 0; k < 3; k++) due("KIND of message " + k, h.message(k, 2), kinds[k]);
        });
        Edges.edge(23, "its sender (what = 0), receiver (1), KIND (2), TICK (3), how many bytes (4).", () -> {
            House h = new House(6);
            h.link(5, 0, 9);
            h.tick(64);
            h.feed(1, 2, 3, 4, 5);
            h.loseAll();
            h.post(5, 0, 6);
            int[] want = {5, 0, 6, 73, 20};
            for (int w = 0; w < 5; w++) due("message(0, " + w + ")", h.message(0, w), want[w]);
        });
        Edges.edge(23, "BAD.", () -> {
            due("message(0, 0) of an empty QUEUE", new House(2).message(0, 0), BAD);
            for (int k : new int[] {-1, 6, LEAST, MOST}) Edges.refused("message(" + k + ", 0)", h -> h.message(k, 0), BAD);
        });
        Edges.edge(23, "BAD.", () -> {
            for (int w : new int[] {-1, 5, LEAST, MOST}) Edges.refused("message(0, " + w + ")", h -> h.message(0, w), BAD);
        });
        Edges.edge(24, "Byte i of message k.", () -> {
            House h = queued();
            due("messageByte(0, 0), the first", h.messageByte(0, 0), 255);
            due("messageByte(0, 19), the last", h.messageByte(0, 19), 128);
            due("messageByte(2, 0), of another", h.messageByte(2, 0), 7);
            due("messageByte(2, 19), of another", h.messageByte(2, 19), 9);
        });
        Edges.edge(24, "BAD.", () -> {
            for (int k : new int[] {-1, 6, LEAST, MOST}) Edges.refused("messageByte(" + k + ", 0)", h -> h.messageByte(k, 0), BAD);
        });
        Edges.edge(24, "BAD.", () -> {
            for (int i : new int[] {-1, 32, LEAST, MOST}) Edges.refused("messageByte(0, " + i + ")", h -> h.messageByte(0, i), BAD);
            House h = queued();
            due("messageByte(1, 0) of no bytes", h.messageByte(1, 0), BAD);
            due("messageByte(0, 20)", h.messageByte(0, 20), BAD);
            due("messageByte(2, 20)", h.messageByte(2, 20), BAD);
        });
    }

    /** Three messages, of twenty bytes, of none, and of twenty. */
    private static House queued() {
        House h = new House(2);
        h.link(0, 1, 1);
        h.feed(-1, 2, 3, 4, 128);
        h.post(0, 1, 1);
        h.post(0, 1, 1);
        h.feed(0x07000000, 2, 3, 4, 9);
        h.post(0, 1, 1);
        return h;
    }

    // ---- 25, 26

    private static void altering() {
        Edges.edge(25, "Byte i of message k becomes it xor the lowest 8 bits of b: what it is.", () -> {
            House h = queued();
            due("alter(0, 0, 15)", h.alter(0, 0, 15), 0xF0);
            due("alter(0, 0, 256)", h.alter(0, 0, 256), 0xF0);
            due("alter(0, 0, -1)", h.alter(0, 0, -1), 15);
            due("alter(2, 19, 0x1FF)", h.alter(2, 19, 0x1FF), 246);
            due("messageByte(0, 0)", h.messageByte(0, 0), 15);
            due("messageByte(2, 19)", h.messageByte(2, 19), 246);
            due("messageByte(2, 0)", h.messageByte(2, 0), 7);
            due("bytes of all", h.house(3), 40);
        });
        Edges.edge(25, "BAD.", () -> {
            for (int k : new int[] {-1, 6, LEAST, MOST}) Edges.refused("alter(" + k + ", 0, 1)", h -> h.alter(k, 0, 1), BAD);
        });
        Edges.edge(25, "BAD.", () -> {
            for (int i : new int[] {-1, 32, LEAST, MOST}) Edges.refused("alter(1, " + i + ", 1)", h -> h.alter(1, i, 1), BAD);
            House h = queued();
            due("alter(1, 0, 1) of no bytes", h.alter(1, 0, 1), BAD);
            due("messageByte(2, 0)", h.messageByte(2, 0), 7);
        });
    }

    private static void noMessageAt(House h, int k) {
        for (int w = 0; w < 5; w++) due("message(" + k + ", " + w + ")", h.message(k, w), BAD);
        due("messageByte(" + k + ", 0)", h.messageByte(k, 0), BAD);
        due("alter(" + k + ", 0, 1)", h.alter(k, 0, 1), BAD);
        due("lose(" + k + ")", h.lose(k), BAD);
    }

    /** What was in the QUEUE, and is there no more. */
    private static void notAnyMore() {
        for (int promise = 23; promise <= 26; promise++) {
            Edges.edge(promise, "BAD.", () -> {
                House h = queued();
                h.lose(2);
                noMessageAt(h, 2);
                h.tick(1);
                for (int k = 0; k < 3; k++) noMessageAt(h, k);
            });
        }
    }

    private static void losing() {
        Edges.edge(26, "Message k goes: how many there are.", () -> {
            House h = queued();
            due("lose(1), of no bytes", h.lose(1), 2);
            due("their bytes", h.house(3), 40);
            due("messageByte(1, 0)", h.messageByte(1, 0), 7);
            due("lose(1), the last", h.lose(1), 1);
            due("their bytes", h.house(3), 20);
            due("lose(0), the only one", h.lose(0), 0);
            due("their bytes", h.house(3), 0);
            due("tick(1)", h.tick(1), 0);
            due("it was not received", h.told(1, 9), 0);
        });
        Edges.edge(26, "Message k goes: how many there are.", () -> {
            House h = new House(2);
            h.link(0, 1, 1);
            for (int i = 0; i < 200; i++) h.post(0, 1, 1);
            due("post of one more", h.post(0, 1, 1), 0);
            due("lose(199), the last", h.lose(199), 199);
            due("lose(0), the first", h.lose(0), 198);
            h.feed(1, 2, 3, 4, 5);
            due("post", h.post(0, 1, 2), 1);
            due("KIND of the last", h.message(198, 2), 2);
            due("its bytes", h.message(198, 4), 20);
        });
        Edges.edge(26, "BAD.", () -> {
            due("lose(0) of an empty QUEUE", new House(2).lose(0), BAD);
            for (int k : new int[] {-1, 6, LEAST, MOST}) Edges.refused("lose(" + k + ")", h -> h.lose(k), BAD);
        });
    }

    public static void main(String[] args) {
        all();
        Edges.run();
    }
}
