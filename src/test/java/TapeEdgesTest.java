import java.nio.ByteBuffer;
import java.util.Arrays;

/** Edges of promises 1 to 17: a new object, the tape, keys, the draft, blocks on the tape. */
public final class TapeEdgesTest {
    private static final int BAD = Edges.BAD, IS_DOWN = Edges.IS_DOWN, FULL = Edges.FULL, NO = Edges.NO;
    private static final int LEAST = Integer.MIN_VALUE, MOST = Integer.MAX_VALUE;
    private static final long[] SEEDS = {0, 1, -1, Long.MIN_VALUE, Long.MAX_VALUE, 0x0102030405060708L};
    /** No hash of any try meets these. */
    private static final int HARDEST = 0x04008000;

    private static void due(String what, long got, long want) {
        Edges.due(what, got, want);
    }

    static void all() {
        newObject();
        tape();
        keys();
        draft();
        signing();
        taking();
        assembling();
        roots();
        solving();
        solvingRefused();
    }

    // ---- 1

    private static void nodesOf(int n, int many) {
        House h = new House(n);
        due("house(0) of a house of " + n, h.house(0), many);
        for (int i = 0; i < many; i++) due("told(" + i + ", 0) of a house of " + n, h.told(i, 0), 1);
        due("told(" + many + ", 0) of a house of " + n, h.told(many, 0), BAD);
        due("told(-1, 0) of a house of " + n, h.told(-1, 0), BAD);
    }

    private static void newObject() {
        Edges.edge(1, "Nodes 0 .. n - 1, all UP", () -> {
            for (int n = 1; n <= 6; n++) nodesOf(n, n);
        });
        Edges.edge(1, "n below 1 counts as 1", () -> {
            for (int n : new int[] {0, -1, LEAST}) nodesOf(n, 1);
        });
        Edges.edge(1, "above 6 as 6", () -> {
            for (int n : new int[] {7, 8, MOST}) nodesOf(n, 6);
        });
        Edges.edge(1, "no LINKS", () -> {
            House h = new House(6);
            due("tick(8)", h.tick(8), 0);
            due("messages behind TICK 8", h.house(2), 0);
            due("gone behind TICK 8", h.house(4), 0);
            for (int a = 0; a < 6; a++) {
                for (int b = 0; b < 6; b++) if (a != b) due("link(" + a + ", " + b + ", 0)", h.link(a, b, 0), 0);
            }
        });
        Edges.edge(1, "TICK 0", () -> due("house(1)", new House(3).house(1), 0));
        Edges.edge(1, "an empty tape, draft, QUEUE.", () -> {
            House h = new House(3);
            for (int w : new int[] {2, 3, 5, 6, 7}) due("house(" + w + ")", h.house(w), 0);
            due("turn(0, 0)", h.turn(0, 0), BAD);
            due("message(0, 0)", h.message(0, 0), BAD);
            due("begin()", h.begin(), 0);
        });
    }

    // ---- 2 to 5

    private static void fill(House h, int bytes) {
        for (int n = 20; n <= bytes; n += 20) h.feed(n, 0, 0, 0, n);
    }

    private static void tape() {
        Edges.edge(2, "Twenty bytes come behind the TAPE, the highest of each int first: how many it has.", () -> {
            House h = new House(1);
            due("feed", h.feed(0x01020304, -1, LEAST, MOST, 0xA0B0C0D0), 20);
            int[] bytes = {1, 2, 3, 4, 255, 255, 255, 255, 128, 0, 0, 0, 127, 255, 255, 255, 0xA0, 0xB0, 0xC0, 0xD0};
            for (int i = 0; i < 20; i++) due("byte " + i, h.turn(i, 0), bytes[i]);
            due("cut(1)", h.cut(1), 19);
            due("feed behind 19", h.feed(0x05060708, 0, 0, 0, 9), 39);
            due("byte 18", h.turn(18, 0), 0xC0);
            due("byte 19", h.turn(19, 0), 5);
            due("byte 38", h.turn(38, 0), 9);
        });
        Edges.edge(2, "FULL.", () -> {
            House h = new House(1);
            fill(h, 3980);
            due("feed behind 3980", h.feed(0, 0, 0, 0, 0x01020304), 4000);
            due("feed behind 4000", h.feed(1, 1, 1, 1, 1), FULL);
            due("the last byte", h.turn(3999, 0), 4);
            due("cut(1)", h.cut(1), 3999);
            due("feed behind 3999", h.feed(1, 1, 1, 1, 1), FULL);
            due("cut(18)", h.cut(18), 3981);
            due("feed behind 3981", h.feed(1, 1, 1, 1, 1), FULL);
            due("the tape stays", h.house(5), 3981);
            due("cut(1)", h.cut(1), 3980);
            due("feed behind 3980", h.feed(1, 1, 1, 1, 1), 4000);
        });
        Edges.edge(2, "FULL.", () -> Edges.refused(1, h -> fill(h, 4000), "feed", h -> h.feed(1, 2, 3, 4, 5), FULL));
        Edges.edge(3, "The TAPE's last n bytes go: how many it has.", () -> {
            House h = new House(1);
            due("cut(0) of nothing", h.cut(0), 0);
            h.feed(0x01020304, 5, 6, 7, 8);
            due("cut(0)", h.cut(0), 20);
            due("cut(17)", h.cut(17), 3);
            h.tapeIs("what is left", new byte[] {1, 2, 3});
            due("cut(3), all of them", h.cut(3), 0);
            h.tapeIs("what is left", new byte[0]);
        });
        Edges.edge(3, "BAD: there are not so many.", () -> {
            due("cut(1) of nothing", new House(1).cut(1), BAD);
            for (int n : new int[] {41, -1, LEAST, MOST}) Edges.refused("cut(" + n + ")", h -> h.cut(n), BAD);
        });
        turning();
        hashing();
    }

    private static void turning() {
        Edges.edge(4, "Byte i of the TAPE becomes it xor the lowest 8 bits of b: what it is.", () -> {
            House h = new House(1);
            h.feed(0x0F000000, 0, 0, 0, 0xF0);
            due("turn(0, 255)", h.turn(0, 255), 0xF0);
            due("turn(0, 256)", h.turn(0, 256), 0xF0);
            due("turn(0, -1)", h.turn(0, -1), 0x0F);
            due("turn(0, the least int)", h.turn(0, LEAST), 0x0F);
            due("turn(19, 0), the last one", h.turn(19, 0), 0xF0);
            due("turn(19, 0x1F1)", h.turn(19, 0x1F1), 1);
            due("turn(19, 0)", h.turn(19, 0), 1);
            due("turn(18, 0), the one before", h.turn(18, 0), 0);
        });
        Edges.edge(4, "BAD.", () -> {
            due("turn(0, 1) of nothing", new House(1).turn(0, 1), BAD);
            for (int i : new int[] {40, -1, LEAST, MOST}) Edges.refused("turn(" + i + ", 1)", h -> h.turn(i, 1), BAD);
        });
        Edges.edge(4, "BAD.", () -> {
            House h = new House(1);
            h.feed(1, 2, 3, 4, 5);
            h.cut(1);
            due("turn of what was cut", h.turn(19, 0), BAD);
        });
    }

    private static void hashing() {
        Edges.edge(5, "Limb k (0 .. 3, the highest first, 64 bits each) of H of the TAPE", () -> {
            House h = new House(1);
            long[] empty = {0xe3b0c44298fc1c14L, 0x9afbf4c8996fb924L, 0x27ae41e4649b934cL, 0xa495991b7852b855L};
            for (int k = 0; k < 4; k++) due("hash(false, " + k + ") of nothing", h.hash(false, k), empty[k]);
            fill(h, 4000);
            ByteBuffer all = ByteBuffer.allocate(4000);
            for (int n = 20; n <= 4000; n += 20) all.putInt(n).putInt(0).putLong(0).putInt(n);
            ByteBuffer want = ByteBuffer.wrap(Model.h(all.array()));
            for (int k = 0; k < 4; k++) due("hash(false, " + k + ") of 4000", h.hash(false, k), want.getLong());
            due("the tape stays", h.house(5), 4000);
        });
        Edges.edge(5, "or, twice, of H of that", () -> {
            House h = new House(1);
            ByteBuffer want = ByteBuffer.wrap(Model.h(Model.h(new byte[0])));
            for (int k = 0; k < 4; k++) due("hash(true, " + k + ") of nothing", h.hash(true, k), want.getLong());
            due("the tape stays", h.house(5), 0);
        });
        Edges.edge(5, "0 for another k.", () -> {
            House h = new House(1);
            h.feed(1, 2, 3, 4, 5);
            for (int k : new int[] {-1, 4, 5, LEAST, MOST}) {
                due("hash(false, " + k + ")", h.hash(false, k), 0);
                due("hash(true, " + k + ")", h.hash(true, k), 0);
            }
        });
    }

    // ---- 6, 7

    private static void keys() {
        Edges.edge(6, "Part i (0 .. 7) of a SEED's KEY behind steps 0 .. n - 1", () -> {
            for (long seed : SEEDS) {
                House h = new House(1);
                for (int i = 0; i < 8; i++) {
                    for (int n = 0; n <= 15; n++) {
                        due("part(" + seed + ", " + i + ", " + n + ")", h.part(seed, i, n), Model.keyPart(seed, i, n));
                    }
                }
            }
        });
        Edges.edge(6, "0 for another i", () -> {
            House h = new House(1);
            for (int i : new int[] {-1, 8, 9, LEAST, MOST}) {
                for (int n : new int[] {0, 15}) due("part(7, " + i + ", " + n + ")", h.part(7, i, n), 0);
            }
        });
        Edges.edge(6, "or n that is not 0 .. 15.", () -> {
            House h = new House(1);
            for (int n : new int[] {-1, 16, 17, LEAST, MOST}) {
                for (int i : new int[] {0, 7}) due("part(7, " + i + ", " + n + ")", h.part(7, i, n), 0);
            }
        });
        Edges.edge(7, "A SEED's ADDRESS.", () -> {
            House h = new House(1);
            for (long seed : SEEDS) due("address(" + seed + ")", h.address(seed), Model.keyAddress(seed));
        });
    }

    // ---- 8 to 12

    private static void fullDraft(House h) {
        for (int i = 0; i < 4; i++) h.input(i, i, i);
        for (int i = 0; i < 4; i++) h.output(i, i);
    }

    private static void draft() {
        Edges.edge(8, "The DRAFT is empty: how many INPUTS and OUTPUTS it had.", () -> {
            House h = new House(1);
            due("begin() of nothing", h.begin(), 0);
            h.input(1, 0, 1);
            due("begin() of an INPUT", h.begin(), 1);
            h.output(1, 0);
            due("begin() of an OUTPUT", h.begin(), 1);
            fullDraft(h);
            due("begin() of four and four", h.begin(), 8);
            due("INPUTS", h.house(6), 0);
            due("OUTPUTS", h.house(7), 0);
            due("begin() again", h.begin(), 0);
            due("input", h.input(1, 0, 1), 1);
        });
        Edges.edge(9, "The DRAFT gets an INPUT, signed by a SEED: how many it has.", () -> {
            House h = new House(1);
            for (int i = 0; i < 4; i++) due("input of place " + i, h.input(i % 2 == 0 ? Long.MIN_VALUE : -1, i, SEEDS[i]), i + 1);
            h.output(1, 2);
            h.sign(-1);
            byte[] want = Lab.tx(Lab.ins(Long.MIN_VALUE, 0, SEEDS[0], -1, 1, SEEDS[1], Long.MIN_VALUE, 2, SEEDS[2], -1, 3, SEEDS[3]), 1, 0);
            h.tapeIs("the transaction", signedFor(want, 2L, SEEDS));
        });
        Edges.edge(9, "BAD: place", () -> {
            for (int place : new int[] {-1, 4, 256, LEAST, MOST}) Edges.refused("input(1, " + place + ", 1)", h -> h.input(1, place, 1), BAD);
        });
        Edges.edge(9, "FULL: it has four.", () -> Edges.refused(1, TapeEdgesTest::fullDraft, "input", h -> h.input(1, 3, 1), FULL));
        spending();
        Edges.edge(11, "The DRAFT gets an OUTPUT, to an ADDRESS: how many it has.", () -> {
            House h = new House(1);
            long[] amounts = {0, -1, Long.MIN_VALUE, Long.MAX_VALUE};
            ByteBuffer want = ByteBuffer.allocate(6 + 64).put((byte) 0).put((byte) 4).putInt(5);
            for (int i = 0; i < 4; i++) {
                due("output of " + amounts[i], h.output(amounts[i], amounts[3 - i]), i + 1);
                want.putLong(amounts[i]).putLong(amounts[3 - i]);
            }
            h.sign(5);
            h.tapeIs("the reward", want.array());
        });
        Edges.edge(11, "FULL: it has four.", () -> Edges.refused(1, TapeEdgesTest::fullDraft, "output", h -> h.output(1, 1), FULL));
        Edges.edge(12, "Likewise, to a SEED's ADDRESS.", () -> {
            House h = new House(1);
            for (int i = 0; i < 4; i++) due("pay", h.pay(i, SEEDS[i + 2]), i + 1);
            h.sign(5);
            h.tapeIs("the reward", Lab.reward(5, 0, SEEDS[2], 1, SEEDS[3], 2, SEEDS[4], 3, SEEDS[5]));
        });
        Edges.edge(12, "Likewise", () -> Edges.refused(1, TapeEdgesTest::fullDraft, "pay", h -> h.pay(1, 1), FULL));
    }

    /** A transaction whose only output goes to an address, signed anew by its inputs' seeds. */
    private static byte[] signedFor(byte[] tx, long address, long... seeds) {
        ByteBuffer b = ByteBuffer.wrap(tx.clone());
        b.putLong(tx.length - 8, address);
        for (int i = 0; i < tx[0]; i++) Arrays.fill(b.array(), 2 + 73 * i + 9, 2 + 73 * i + 73, (byte) 0);
        int[] d = Model.digits(b.array());
        for (int i = 0; i < tx[0]; i++) {
            for (int j = 0; j < 8; j++) b.putLong(2 + 73 * i + 9 + 8 * j, Model.keyPart(seeds[i], j, d[j]));
        }
        return b.array();
    }

    private static void spending() {
        Edges.edge(10, "Likewise, what is UNSPENT as the i-th, from 0, behind a node's TIP.", () -> {
            House h = new House(2).grow(0, 1, 2);
            due("spend(0, 0, 0), the first", h.spend(0, 0, 0), 1);
            due("spend(0, 2, 0), the last", h.spend(0, 2, 0), 2);
            due("spend(1, 0, 0) of the other node", h.spend(1, 0, 0), 3);
            h.pay(1, 1);
            h.sign(0);
            h.tapeIs("the transaction", Lab.tx(Lab.ins(Plain.coin(0), 0, 0, Plain.coin(2), 0, 0, Plain.coin(0), 0, 0), 1, 1));
        });
        Edges.edge(10, "BAD, IS_DOWN, FULL.", () -> {
            for (int node : new int[] {-1, 3, LEAST, MOST}) Edges.refused("spend(" + node + ", 0, 0)", h -> h.spend(node, 0, 0), BAD);
        });
        Edges.edge(10, "BAD, IS_DOWN, FULL.", () -> {
            for (int i : new int[] {-1, 6, LEAST, MOST}) Edges.refused("spend(0, " + i + ", 0)", h -> h.spend(0, i, 0), BAD);
            due("spend(1, 1, 0) of a node that has one", new House(2).spend(1, 1, 0), BAD);
        });
        Edges.edge(10, "BAD, IS_DOWN, FULL.", () -> {
            for (int i : new int[] {0, -1, 99}) Edges.refused("spend(2, " + i + ", 0)", h -> h.spend(2, i, 0), IS_DOWN);
        });
        Edges.edge(10, "BAD, IS_DOWN, FULL.", () -> {
            Edges.refused(1, TapeEdgesTest::fullDraft, "spend(0, 0, 0)", h -> h.spend(0, 0, 0), FULL);
            Edges.refused(1, TapeEdgesTest::fullDraft, "spend(0, 1, 0)", h -> h.spend(0, 1, 0), BAD);
        });
    }

    // ---- 13

    private static void signing() {
        Edges.edge(13, "The TAPE becomes the DRAFT's TRANSACTION, signed", () -> {
            House h = new House(1);
            h.feed(1, 2, 3, 4, 5);
            for (int i = 0; i < 4; i++) h.input(i, 3 - i, SEEDS[i]);
            for (int i = 0; i < 4; i++) h.pay(i, i);
            due("sign of four and four", h.sign(0), 358);
            byte[] want = Lab.tx(Lab.ins(0, 3, SEEDS[0], 1, 2, SEEDS[1], 2, 1, SEEDS[2], 3, 0, SEEDS[3]), 0, 0, 1, 1, 2, 2, 3, 3);
            h.tapeIs("the greatest transaction", want);
            due("the DRAFT stays", h.begin(), 8);
        });
        Edges.edge(13, "(without INPUTS a REWARD of this HEIGHT)", () -> {
            House h = new House(1);
            h.pay(1, 1);
            for (int height : new int[] {0, 1, MOST}) {
                due("sign(" + height + ")", h.sign(height), 22);
                h.tapeIs("the reward of " + height, Lab.reward(height, 1, 1));
            }
        });
        Edges.edge(13, "how many bytes.", () -> {
            for (int n = 0; n <= 4; n++) {
                House h = new House(1);
                for (int i = 0; i < n; i++) h.input(i, 0, 0);
                for (int m = 1; m <= 4; m++) {
                    h.output(m, m);
                    due("sign of " + n + " and " + m, h.sign(0), 2 + (n == 0 ? 4 : 73 * n) + 16 * m);
                    due("bytes of the tape", h.house(5), 2 + (n == 0 ? 4 : 73 * n) + 16 * m);
                }
            }
        });
        Edges.edge(13, "BAD: no OUTPUT", () -> {
            Edges.refused(1, h -> h.feed(1, 2, 3, 4, 5), "sign(0) of nothing", h -> h.sign(0), BAD);
            Edges.refused(1, h -> h.input(1, 1, 1), "sign(0) of an INPUT", h -> h.sign(0), BAD);
        });
        Edges.edge(13, "or without INPUTS a HEIGHT below 0.", () -> {
            for (int height : new int[] {-1, LEAST}) {
                Edges.refused(1, h -> h.pay(1, 1), "sign(" + height + ")", h -> h.sign(height), BAD);
                House h = new House(1);
                h.pay(1, 1);
                h.input(1, 1, 1);
                due("sign(" + height + ") with an INPUT", h.sign(height), 91);
            }
        });
    }

    // ---- 14

    private static void taking() {
        Edges.edge(14, "The TAPE becomes block k that a node has STORED: how many bytes.", () -> {
            House h = new House(2).grow(0, 1, 3);
            fill(h, 200);
            for (int k : new int[] {0, 3}) {
                due("take(0, " + k + ")", h.take(0, k), 103);
                h.tapeIs("block " + k, Plain.block(k));
            }
            due("take(1, 0)", h.take(1, 0), 103);
        });
        Edges.edge(14, "BAD, IS_DOWN.", () -> {
            for (int node : new int[] {-1, 3, LEAST, MOST}) Edges.refused("take(" + node + ", 0)", h -> h.take(node, 0), BAD);
        });
        Edges.edge(14, "BAD, IS_DOWN.", () -> {
            for (int k : new int[] {-1, 6, LEAST, MOST}) Edges.refused("take(0, " + k + ")", h -> h.take(0, k), BAD);
            due("take(1, 1) of a node that has one", new House(2).take(1, 1), BAD);
        });
        Edges.edge(14, "BAD, IS_DOWN.", () -> {
            for (int k : new int[] {0, -1, 99}) Edges.refused("take(2, " + k + ")", h -> h.take(2, k), IS_DOWN);
        });
    }

    // ---- 15

    /** Node 0 has the plain chain up to 12, and in its POOL a transaction of each fee; coin i has fee i. */
    private static House pooled(int... fees) {
        House h = new House(1).grow(0, 1, 12);
        for (int i = 0; i < fees.length; i++) due("into the POOL", h.drawCoin(i, 4096 - fees[i], i).give(0, 6), 0);
        return h;
    }

    /** What is assembled behind block 12 of coins with their fees, in this order. */
    private static byte[] body(long seed, int time, int[] coins, int[] fees) {
        byte[][] txs = new byte[coins.length + 1][];
        long sum = 4096;
        for (int i = 0; i < coins.length; i++) {
            txs[i + 1] = Plain.draw(coins[i], 4096 - fees[coins[i]], coins[i]);
            sum += fees[coins[i]];
        }
        txs[0] = Lab.reward(13, sum, seed);
        byte[] head = Model.join(Plain.hash(12), new byte[32], Model.bytes(time), Model.bytes(Lab.EASIEST), new byte[8]);
        return Lab.root(Model.join(head, new byte[] {(byte) txs.length}, Model.join(txs)), txs);
    }

    private static void assembled(int[] fees, int... coins) {
        House h = pooled(fees);
        byte[] want = body(9, 5000, coins, fees);
        due("assemble(0, 9, 5000)", h.assemble(0, 9, 5000), want.length);
        h.tapeIs("the block", want);
        due("the POOL stays", h.told(0, 5), fees.length);
    }

    private static void assembling() {
        Edges.edge(15, "The TAPE becomes a block behind a node's TIP", () -> {
            House h = new House(2);
            fill(h, 300);
            due("assemble(1, 9, 1001) behind the FIRST one", h.assemble(1, 9, 1001), 103);
            byte[] reward = Lab.reward(1, 4096, 9);
            h.tapeIs("the block", Model.join(Plain.hash(0), Model.hh(reward), Model.bytes(1001), Model.bytes(Lab.EASIEST),
                new byte[8], new byte[] {1}, reward));
            due("nothing is STORED", h.told(1, 1), 1);
        });
        Edges.edge(15, "first a REWARD with one OUTPUT (THE SUBSIDY and all FEES, to the SEED's ADDRESS)", () -> {
            House h = new House(1).grow(0, 1, 30);
            h.assemble(0, -1, 5000);
            h.tapeIs("the last of 4096", unsolved(Plain.hash(30), 5000, Lab.reward(31, 4096, -1)));
            due("block 31", h.mine(0, 0, Plain.time(31)), 0);
            h.assemble(0, -1, 5000);
            h.tapeIs("the first of 2048", unsolved(Plain.hash(31), 5000, Lab.reward(32, 2048, -1)));
        });
        Edges.edge(15, "then of its POOL those of the greatest FEES, seven at most", () -> {
            assembled(new int[] {});
            assembled(new int[] {3}, 0);
            assembled(new int[] {1, 2, 3, 4, 5, 6, 7}, 6, 5, 4, 3, 2, 1, 0);
            assembled(new int[] {1, 2, 3, 4, 5, 6, 7, 8}, 7, 6, 5, 4, 3, 2, 1);
        });
        Edges.edge(15, "of equal ones in its order, the greatest first", () -> {
            assembled(new int[] {0, 0, 0, 0, 0, 0, 0, 0}, 0, 1, 2, 3, 4, 5, 6);
            assembled(new int[] {5, 9, 5, 4095, 9, 5, 0, 5, 5}, 3, 1, 4, 0, 2, 5, 7);
        });
        Edges.edge(15, "ROOT, BITS as they are DUE, this TIME, NONCE 0: how many bytes.", () -> {
            House h = new House(1);
            for (int i = 1; i <= 15; i++) due("block " + i, h.mine(0, 1, 1000 + i), 0);
            byte[] before = ByteBuffer.allocate(32).putLong(h.limb(0, 15, 0)).putLong(h.limb(0, 15, 1)).putLong(h.limb(0, 15, 2))
                .putLong(h.limb(0, 15, 3)).array();
            due("assemble(0, 1, the greatest TIME)", h.assemble(0, 1, MOST), 103);
            byte[] want = unsolved(before, MOST, Lab.reward(16, 4096, 1));
            ByteBuffer.wrap(want).putInt(68, 0x2003FFFF);
            h.tapeIs("the block", want);
        });
        Edges.edge(15, "BAD: TIME is not above the MIDDLE time", () -> {
            // TIMES are 1000, 1011, .. 1055: the one at place 3 is the MIDDLE one.
            for (int time : new int[] {1033, 1032, 0, -1, LEAST}) Edges.refused("assemble(0, 1, " + time + ")", h -> h.assemble(0, 1, time), BAD);
            House h = new House(1).grow(0, 1, 5);
            due("assemble(0, 1, 1034)", h.assemble(0, 1, 1034), 103);
        });
        Edges.edge(15, "BAD: TIME is not above the MIDDLE time; IS_DOWN.", () -> {
            for (int node : new int[] {-1, 3, LEAST, MOST}) Edges.refused("assemble(" + node + ", 1, 5000)", h -> h.assemble(node, 1, 5000), BAD);
            for (int time : new int[] {5000, 1000, -1}) Edges.refused("assemble(2, 1, " + time + ")", h -> h.assemble(2, 1, time), IS_DOWN);
        });
    }

    private static byte[] unsolved(byte[] before, int time, byte[] reward) {
        return Model.join(before, Model.hh(reward), Model.bytes(time), Model.bytes(Lab.EASIEST), new byte[8], new byte[] {1}, reward);
    }

    // ---- 16

    private static void noBlock(String what, byte[] tape) {
        Edges.refused(1, h -> h.load(tape), "root() of " + what, House::root, NO);
    }

    private static void roots() {
        Edges.edge(16, "The ROOT in the TAPE, a block, becomes that of its TRANSACTIONS: 1, if it was another one, else 0.", () -> {
            byte[] block = Plain.block(1);
            for (int at : new int[] {32, 63}) {
                House h = new House(1).load(Lab.with(block, at, block[at] + 1));
                due("root() of another one", h.root(), 1);
                h.tapeIs("the block", block);
                due("root() again", h.root(), 0);
                h.tapeIs("the block", block);
            }
            for (int at : new int[] {31, 64 + 3}) {
                byte[] other = Lab.with(block, at, block[at] + 1);
                House h = new House(1).load(other);
                due("root(), what stands beside it is another", h.root(), 0);
                h.tapeIs("the block", other);
            }
        });
        Edges.edge(16, "NO: the TAPE has not the FORM of a block.", () -> {
            byte[] block = Plain.block(1);
            noBlock("nothing", new byte[0]);
            noBlock("80 bytes", Arrays.copyOf(block, 80));
            noBlock("81 bytes", Arrays.copyOf(block, 81));
            noBlock("a byte less", Arrays.copyOf(block, 102));
            noBlock("a byte more", Arrays.copyOf(block, 104));
            noBlock("a TIME of 2^31", Lab.with(block, 64, 128));
            noBlock("no TRANSACTION", Lab.with(Arrays.copyOf(block, 81), 80, 0));
            noBlock("a HEIGHT of 2^31", Lab.with(block, 83, 128));
        });
        Edges.edge(16, "NO: the TAPE has not the FORM of a block.", () -> {
            byte[][] nine = new byte[9][];
            Arrays.fill(nine, Lab.reward(1, 1, 1));
            byte[] eight = Model.join(new byte[80], new byte[] {8}, Model.join(Arrays.copyOf(nine, 8)));
            due("root() of eight", new House(1).load(eight).root(), 1);
            noBlock("nine", Model.join(new byte[80], new byte[] {9}, Model.join(nine)));
        });
    }

    // ---- 17

    private static byte[] head(int bits) {
        return ByteBuffer.allocate(80).putInt(68, bits).array();
    }

    private static byte[] head(int bits, long nonce) {
        return ByteBuffer.wrap(head(bits)).putLong(72, nonce).array();
    }

    private static boolean meets(long nonce) {
        return Model.meets(Lab.hashOf(head(Lab.EASIEST, nonce)), Lab.EASIEST);
    }

    private static int need(long from) {
        int n = 1;
        while (!meets(from + n - 1)) n++;
        return n;
    }

    private static void solved(byte[] behind, long from) {
        int need = need(from);
        House h = new House(1).load(Model.join(head(Lab.EASIEST), behind));
        due("solve(" + from + ", 2000)", h.solve(from, 2000), need);
        h.tapeIs("the header", Model.join(head(Lab.EASIEST, from + need - 1), behind));
        due("TRIES left", h.house(8), 200000 - need);
    }

    private static void solving() {
        Edges.edge(17, "The NONCE in the TAPE, which has 80 bytes at least", () -> {
            solved(new byte[0], 0);
            solved(new byte[1], 0);
            solved(new byte[300], 7);
            byte[] short79 = Arrays.copyOf(head(Lab.EASIEST), 79);
            Edges.refused(1, h -> h.load(short79), "solve of 79 bytes", h -> h.solve(0, 2000), BAD);
            Edges.refused(1, h -> { }, "solve of nothing", h -> h.solve(0, 2000), BAD);
        });
        Edges.edge(17, "becomes nonce, nonce + 1, .. (running over), till the HASH of its first 80 bytes MEETS the TARGET of its BITS", () -> {
            // Behind the greatest long comes the least one, behind -1 comes 0.
            must("the greatest long does not meet", !meets(Long.MAX_VALUE));
            must("-1 does not meet", !meets(-1));
            solved(new byte[0], Long.MAX_VALUE);
            solved(new byte[0], -1);
        });
        Edges.edge(17, "how many TRIES that took.", () -> {
            long first = 0;
            while (!meets(first)) first++;
            House h = new House(1).load(head(Lab.EASIEST));
            due("solve of one that meets at once", h.solve(first, 1), 1);
            due("TRIES left", h.house(8), 199999);
            due("solve again", h.solve(first, 2000), 1);
            due("TRIES left", h.house(8), 199998);
            due("solve with just enough", h.solve(0, (int) first + 1), first + 1);
            due("TRIES left", h.house(8), 199998 - first - 1);
        });
        Edges.edge(17, "NO: n (1 .. 2000) did not; the NONCE is the last one then.", () -> {
            House h = new House(1).load(head(HARDEST));
            due("solve(5, 1)", h.solve(5, 1), NO);
            h.tapeIs("the header", head(HARDEST, 5));
            due("TRIES left", h.house(8), 199999);
            due("solve(-2, 2000)", h.solve(-2, 2000), NO);
            h.tapeIs("the header", head(HARDEST, 1997));
            due("TRIES left", h.house(8), 197999);
            House almost = new House(1).load(head(Lab.EASIEST));
            int need = need(1);
            due("solve with one less than it needs", almost.solve(1, need - 1), need == 1 ? BAD : NO);
            almost.tapeIs("the header", head(Lab.EASIEST, need - 1));
        });
    }

    private static void must(String what, boolean holds) {
        Edges.must(what, holds);
    }

    private static void solvingRefused() {
        Edges.edge(17, "BAD: n, the bytes, or BITS that are not right", () -> {
            for (int n : new int[] {0, -1, 2001, LEAST, MOST}) {
                Edges.refused(1, h -> h.load(head(Lab.EASIEST)), "solve(0, " + n + ")", h -> h.solve(0, n), BAD);
            }
        });
        Edges.edge(17, "BAD: n, the bytes, or BITS that are not right", () -> {
            int[] bits = {0x03008000, 0x037FFFFF, 0x04007FFF, 0x04800000, 0x1F800000, 0x20007FFF, 0x20100000, 0x21008000, 0, -1, LEAST};
            for (int b : bits) Edges.refused(1, h -> h.load(head(b)), "solve of BITS " + b, h -> h.solve(0, 1), BAD);
        });
        Edges.edge(17, "FULL: there are not so many TRIES left.", () -> {
            House h = new House(1).load(head(HARDEST));
            for (int i = 0; i < 99; i++) due("solve", h.solve(0, 2000), NO);
            due("TRIES left", h.house(8), 2000);
            due("solve(0, 2000), all that are left", h.solve(0, 2000), NO);
            due("TRIES left", h.house(8), 0);
            due("solve(0, 1)", h.solve(0, 1), FULL);
            due("solve(0, 2001)", h.solve(0, 2001), BAD);
            h.tapeIs("the header", head(HARDEST, 1999));
        });
        Edges.edge(17, "FULL: there are not so many TRIES left.", () -> {
            Edges.Way way = h -> {
                h.load(head(HARDEST));
                for (int i = 0; i < 99; i++) h.solve(0, 2000);
                h.solve(0, 1001);
            };
            Edges.refused(1, way, "solve(7, 1000) with 999 left", h -> h.solve(7, 1000), FULL);
            Edges.refused(1, way, "solve(7, 2000) with 999 left", h -> h.solve(7, 2000), FULL);
        });
    }

    public static void main(String[] args) {
        all();
        Edges.run();
    }
}
