import java.math.BigInteger;

/** Edges of promises 32 to 41: what there is. */
public final class StateEdgesTest {
    private static final int BAD = Edges.BAD, IS_DOWN = Edges.IS_DOWN, NO = Edges.NO;
    private static final int LEAST = Integer.MIN_VALUE, MOST = Integer.MAX_VALUE;
    private static final int[] NO_NODES = {-1, 3, LEAST, MOST};

    private static void due(String what, long got, long want) {
        Edges.due(what, got, want);
    }

    static void all() {
        told();
        toldOfQueue();
        toldRefused();
        house();
        block();
        limb();
        at();
        unspent();
        find();
        balance();
        pooled();
        dues();
    }

    // ---- 32

    private static void told() {
        Edges.edge(32, "Of a node: 1 if it is UP, else 0 (what = 0)", () -> {
            House h = new House(2);
            due("told(1, 0)", h.told(1, 0), 1);
            h.down(1);
            due("told(1, 0), DOWN", h.told(1, 0), 0);
            h.up(1);
            due("told(1, 0), UP again", h.told(1, 0), 1);
        });
        Edges.edge(32, "blocks STORED (1); its TIP's number (2), HEIGHT (3)", () -> {
            House h = new House(1);
            int[] fresh = {1, 0, 0};
            for (int w = 1; w <= 3; w++) due("told(0, " + w + ") of a new one", h.told(0, w), fresh[w - 1]);
            h.grow(0, 1, 2);
            h.give(0, Plain.fork(Plain.block(0), 1, 2000, 5));
            int[] beside = {4, 2, 2};
            for (int w = 1; w <= 3; w++) due("told(0, " + w + ") with one beside", h.told(0, w), beside[w - 1]);
        });
        Edges.edge(32, "how many are UNSPENT (4), in the POOL (5), ORPHANS (6)", () -> {
            House h = new House(1);
            int[] fresh = {1, 0, 0};
            for (int w = 4; w <= 6; w++) due("told(0, " + w + ") of a new one", h.told(0, w), fresh[w - 4]);
            h.grow(0, 1, 4);
            h.drawCoin(0, 1, 1).give(0, 6);
            h.give(0, Plain.block(7));
            h.give(0, Plain.block(8));
            int[] more = {5, 1, 2};
            for (int w = 4; w <= 6; w++) due("told(0, " + w + ")", h.told(0, w), more[w - 4]);
        });
        Edges.edge(32, "where its next RECORD would stand (7); its FUSE, or NO (8)", () -> {
            House h = new House(1);
            due("told(0, 7) of a new one", h.told(0, 7), 0);
            due("told(0, 8) of a new one", h.told(0, 8), NO);
            h.fuse(0, 0);
            due("told(0, 8)", h.told(0, 8), 0);
            h.fuse(0, MOST);
            due("told(0, 8)", h.told(0, 8), MOST);
            h.give(0, Plain.block(1));
            due("told(0, 7)", h.told(0, 7), 109);
            due("told(0, 8)", h.told(0, 8), MOST - 109);
            h.fuse(0, -1);
            due("told(0, 8)", h.told(0, 8), NO);
        });
    }

    private static void toldOfQueue() {
        Edges.edge(32, "messages of the QUEUE that it received (9), of these refused ones (10; of another form than told).", () -> {
            House h = new House(2);
            h.link(0, 1, 1);
            for (int w = 9; w <= 10; w++) due("told(1, " + w + ") of a new one", h.told(1, w), 0);
            h.give(1, new byte[20]);
            for (int w = 9; w <= 10; w++) due("told(1, " + w + ") of what is given", h.told(1, w), 0);
            h.post(0, 1, 1, Plain.hash(0));
            h.post(0, 1, 1, new byte[31]);
            h.post(0, 1, 5, Plain.block(0));
            h.post(0, 1, 6, Lab.reward(1, 1, 1));
            h.post(0, 1, 6, new byte[3]);
            due("tick(1)", h.tick(1), 5);
            due("told(1, 9)", h.told(1, 9), 5);
            due("told(1, 10)", h.told(1, 10), 2);
            due("told(0, 9) of the other", h.told(0, 9), 0);
            h.down(1);
            h.post(0, 1, 1);
            due("tick(1)", h.tick(1), 0);
            due("told(1, 9), DOWN", h.told(1, 9), 5);
            due("told(1, 10), DOWN", h.told(1, 10), 2);
            h.up(1);
            due("told(1, 9), UP again", h.told(1, 9), 5);
            due("told(1, 10), UP again", h.told(1, 10), 2);
        });
    }

    private static void toldRefused() {
        Edges.edge(32, "A node that is DOWN: NO of 1 to 8.", () -> {
            for (int w = 1; w <= 8; w++) {
                int what = w;
                Edges.refused("told(2, " + what + ")", h -> h.told(2, what), NO);
            }
            House h = new House(1);
            h.fuse(0, 9);
            h.down(0);
            due("told(0, 8) of one that had a FUSE", h.told(0, 8), NO);
            due("told(0, 0)", h.told(0, 0), 0);
            due("told(0, 9)", h.told(0, 9), 0);
            due("told(0, 10)", h.told(0, 10), 0);
        });
        Edges.edge(32, "BAD.", () -> {
            for (int node : NO_NODES) Edges.refused("told(" + node + ", 0)", h -> h.told(node, 0), BAD);
        });
        Edges.edge(32, "BAD.", () -> {
            for (int w : new int[] {-1, 11, LEAST, MOST}) {
                Edges.refused("told(0, " + w + ")", h -> h.told(0, w), BAD);
                Edges.refused("told(2, " + w + "), DOWN", h -> h.told(2, w), BAD);
            }
        });
    }

    // ---- 33

    private static void house() {
        Edges.edge(33, "How many nodes (what = 0); the TICK (1)", () -> {
            for (int n = 1; n <= 6; n++) due("house(0) of " + n, new House(n).house(0), n);
            House h = new House(1);
            due("house(1)", h.house(1), 0);
            h.tick(64);
            due("house(1)", h.house(1), 64);
        });
        Edges.edge(33, "messages in the QUEUE (2), their bytes (3)", () -> {
            House h = new House(2);
            h.link(0, 1, 1);
            h.post(0, 1, 1);
            due("house(2)", h.house(2), 1);
            due("house(3) of no bytes", h.house(3), 0);
            h.feed(1, 2, 3, 4, 5);
            h.post(0, 1, 1);
            due("house(2)", h.house(2), 2);
            due("house(3)", h.house(3), 20);
            h.tick(1);
            due("house(2), all came", h.house(2), 0);
            due("house(3), all came", h.house(3), 0);
        });
        Edges.edge(33, "how many are gone (4: to nodes that are DOWN, too)", () -> {
            House h = new House(3);
            h.link(0, 1, 1);
            due("house(4)", h.house(4), 0);
            h.post(0, 2, 1);
            due("house(4), without LINK", h.house(4), 1);
            h.post(0, 1, 1);
            h.down(1);
            due("house(4), underway", h.house(4), 1);
            h.tick(1);
            due("house(4), to a node that is DOWN", h.house(4), 2);
            h.give(0, Plain.block(5));
            due("house(4), to nobody", h.house(4), 3);
            h.post(0, 7, 1);
            due("house(4), a refused call", h.house(4), 3);
        });
        Edges.edge(33, "bytes of the TAPE (5); INPUTS (6), OUTPUTS (7) of the DRAFT", () -> {
            House h = new House(1);
            h.feed(1, 2, 3, 4, 5);
            for (int i = 0; i < 4; i++) h.input(i, i, i);
            for (int i = 0; i < 5; i++) h.output(i, i);
            int[] want = {20, 4, 4};
            for (int w = 5; w <= 7; w++) due("house(" + w + ")", h.house(w), want[w - 5]);
        });
        Edges.edge(33, "TRIES left (8).", () -> {
            House h = new House(1);
            due("house(8)", h.house(8), 200000);
            h.assemble(0, 0, Plain.time(1));
            int took = h.solve(0, 2000);
            due("house(8)", h.house(8), 200000 - took);
        });
        Edges.edge(33, "BAD.", () -> {
            for (int w : new int[] {-1, 9, 10, LEAST, MOST}) Edges.refused("house(" + w + ")", h -> h.house(w), BAD);
        });
    }

    // ---- 34

    private static void block() {
        Edges.edge(34, "Block k of a node: the number of the one before (what = 0; NO of the FIRST one)", () -> {
            House h = new House(1).grow(0, 1, 2);
            h.give(0, Plain.fork(Plain.block(0), 1, 2000, 5));
            int[] want = {NO, 0, 1, 0};
            for (int k = 0; k < 4; k++) due("block(0, " + k + ", 0)", h.block(0, k, 0), want[k]);
        });
        Edges.edge(34, "HEIGHT (1), TIME (2), BITS (3), TRANSACTIONS (4), bytes (5)", () -> {
            House h = new House(1).grow(0, 1, 10);
            for (int i = 0; i < 7; i++) h.drawCoin(i, 4096, i).give(0, 6);
            due("a block of eight, of the greatest TIME", h.mine(0, 0, MOST), 0);
            int[] first = {0, 1000, Lab.EASIEST, 1, 103}, last = {11, MOST, Lab.EASIEST, 8, 103 + 7 * 91};
            for (int w = 1; w <= 5; w++) {
                due("block(0, 0, " + w + ")", h.block(0, 0, w), first[w - 1]);
                due("block(0, 11, " + w + ")", h.block(0, 11, w), last[w - 1]);
            }
        });
        Edges.edge(34, "1 if it is on its TIP's chain, else 0 (6).", () -> {
            House h = new House(1).grow(0, 1, 1);
            byte[] other = Plain.fork(Plain.block(0), 1, 2000, 5);
            h.give(0, other);
            int[] on = {1, 1, 0};
            for (int k = 0; k < 3; k++) due("block(0, " + k + ", 6)", h.block(0, k, 6), on[k]);
            h.give(0, Plain.fork(other, 2, 2001, 5));
            int[] then = {1, 0, 1, 1};
            for (int k = 0; k < 4; k++) due("block(0, " + k + ", 6)", h.block(0, k, 6), then[k]);
        });
        Edges.edge(34, "BAD, IS_DOWN.", () -> {
            for (int node : NO_NODES) Edges.refused("block(" + node + ", 0, 1)", h -> h.block(node, 0, 1), BAD);
            for (int k : new int[] {-1, 6, LEAST, MOST}) Edges.refused("block(0, " + k + ", 1)", h -> h.block(0, k, 1), BAD);
        });
        Edges.edge(34, "BAD, IS_DOWN.", () -> {
            for (int w : new int[] {-1, 7, LEAST, MOST}) {
                Edges.refused("block(0, 0, " + w + ")", h -> h.block(0, 0, w), BAD);
                Edges.refused("block(2, 0, " + w + "), DOWN", h -> h.block(2, 0, w), BAD);
            }
        });
        Edges.edge(34, "BAD, IS_DOWN.", () -> {
            for (int k : new int[] {0, -1, 99}) Edges.refused("block(2, " + k + ", 0)", h -> h.block(2, k, 0), IS_DOWN);
        });
    }

    // ---- 35

    private static void limb() {
        Edges.edge(35, "Block k of a node: limbs, the highest first, of its HASH (what = 0 .. 3), of its TOTAL (4 .. 7), of its TARGET (8 .. 11)", () -> {
            House h = new House(1).grow(0, 1, 3);
            for (int k : new int[] {0, 3}) {
                BigInteger[] want = {new BigInteger(1, Plain.hash(k)), BigInteger.valueOf(16L * (k + 1)), Model.EASIEST};
                for (int w = 0; w < 12; w++) due("limb(0, " + k + ", " + w + ")", h.limb(0, k, w), Model.limbOf(want[w / 4], w % 4));
            }
        });
        Edges.edge(35, "of its TOTAL (4 .. 7), of its TARGET (8 .. 11)", () -> {
            // Blocks of other BITS than those of the block that came last.
            House h = new House(1);
            for (int i = 1; i <= 16; i++) due("block " + i, h.mine(0, 1, 1000 + i), 0);
            for (int k : new int[] {16, 15, 16, 0}) {
                due("limb(0, " + k + ", 8)", h.limb(0, k, 8), k == 16 ? 0x03FFFF0000000000L : 0x0FFFFF0000000000L);
                for (int w = 9; w < 12; w++) due("limb(0, " + k + ", " + w + ")", h.limb(0, k, w), 0);
                due("limb(0, " + k + ", 7)", h.limb(0, k, 7), k == 16 ? 320 : 16 * (k + 1));
            }
        });
        Edges.edge(35, "Block k of a node", () -> {
            // The last one that a disk has room for.
            House h = new House(1).grow(0, 1, 112);
            BigInteger[] want = {new BigInteger(1, Plain.hash(112)), BigInteger.valueOf(16 * 113), Model.EASIEST};
            for (int w = 0; w < 12; w++) due("limb(0, 112, " + w + ")", h.limb(0, 112, w), Model.limbOf(want[w / 4], w % 4));
            for (int w = 0; w <= 12; w++) due("limb(0, 113, " + w + ")", h.limb(0, 113, w), 0);
            int[] block = {111, 112, Plain.time(112), Lab.EASIEST, 1, 103, 1};
            for (int w = 0; w <= 6; w++) due("block(0, 112, " + w + ")", h.block(0, 112, w), block[w]);
            due("block(0, 113, 0)", h.block(0, 113, 0), BAD);
            due("at(0, 112)", h.at(0, 112), 112);
            due("unspent(0, 112, 2)", h.unspent(0, 112, 2), 512);
            due("take(0, 112)", h.take(0, 112), 103);
        });
        Edges.edge(35, "its NONCE (12).", () -> {
            House h = new House(1);
            due("limb(0, 0, 12)", h.limb(0, 0, 12), 42);
            h.assemble(0, 0, 1001);
            // The first number from the least long on.
            int took = h.solve(Long.MIN_VALUE, 2000);
            h.give(0, 5);
            due("limb(0, 1, 12)", h.limb(0, 1, 12), Long.MIN_VALUE + took - 1);
        });
        Edges.edge(35, "0 for what there is not.", () -> {
            House h = new House(2).grow(0, 1, 2);
            for (int node : NO_NODES) due("limb(" + node + ", 0, 8)", h.limb(node, 0, 8), 0);
            for (int k : new int[] {-1, 3, LEAST, MOST}) {
                for (int w = 0; w <= 12; w++) due("limb(0, " + k + ", " + w + ")", h.limb(0, k, w), 0);
            }
            for (int w : new int[] {-1, 13, LEAST, MOST}) due("limb(0, 0, " + w + ")", h.limb(0, 0, w), 0);
            h.down(0);
            for (int w = 0; w <= 12; w++) due("limb(0, 0, " + w + "), DOWN", h.limb(0, 0, w), 0);
        });
        Edges.edge(35, "0 for what there is not.", () -> {
            // What a node had, and has not any more.
            House h = new House(1).grow(0, 1, 2);
            h.poke(0, 109 + 1, 0);
            h.down(0);
            h.up(0);
            for (int w = 0; w <= 12; w++) due("limb(0, 2, " + w + ")", h.limb(0, 2, w), 0);
        });
    }

    // ---- 36

    private static void at() {
        Edges.edge(36, "The number of the block of a HEIGHT on a node's TIP's chain.", () -> {
            House h = new House(1).grow(0, 1, 1);
            byte[] other = Plain.fork(Plain.block(0), 1, 2000, 5);
            h.give(0, other);
            due("at(0, 0)", h.at(0, 0), 0);
            due("at(0, 1)", h.at(0, 1), 1);
            h.give(0, Plain.fork(other, 2, 2001, 5));
            int[] then = {0, 2, 3};
            for (int height = 0; height <= 2; height++) due("at(0, " + height + ")", h.at(0, height), then[height]);
        });
        Edges.edge(36, "BAD: there is none", () -> {
            for (int height : new int[] {-1, 6, LEAST, MOST}) Edges.refused("at(0, " + height + ")", h -> h.at(0, height), BAD);
            for (int node : NO_NODES) Edges.refused("at(" + node + ", 0)", h -> h.at(node, 0), BAD);
            House h = new House(1).grow(0, 1, 3);
            h.poke(0, 109 + 1, 0);
            h.down(0);
            h.up(0);
            due("at(0, 2) of one that had it", h.at(0, 2), BAD);
        });
        Edges.edge(36, "IS_DOWN.", () -> {
            for (int height : new int[] {0, -1, 99}) Edges.refused("at(2, " + height + ")", h -> h.at(2, height), IS_DOWN);
        });
    }

    // ---- 37

    /** Node 0 has block 5, in which coin 0 goes and two outputs come. */
    private static House spent() {
        House h = new House(2).grow(0, 1, 4);
        due("block 5", h.give(0, spending()), 0);
        return h;
    }

    private static byte[] spending() {
        return Plain.behind(4, Lab.reward(5, 4096, 3), Plain.draw(0, 1, 7, 4095, -1));
    }

    private static void unspent() {
        Edges.edge(37, "What is UNSPENT as the i-th behind a node's TIP: ID (what = 0), place (1), AMOUNT (2), ADDRESS (3), HEIGHT (4)", () -> {
            House h = spent();
            long[] first = {Plain.coin(1), 0, 4096, Model.keyAddress(0), 1};
            long[] last = {Lab.idOf(Plain.draw(0, 1, 7, 4095, -1)), 1, 4095, Model.keyAddress(-1), 5};
            due("how many", h.told(0, 4), 7);
            for (int w = 0; w < 5; w++) {
                due("unspent(0, 0, " + w + ")", h.unspent(0, 0, w), first[w]);
                due("unspent(0, 6, " + w + ")", h.unspent(0, 6, w), last[w]);
            }
        });
        Edges.edge(37, "1 of a REWARD, else 0 (5).", () -> {
            House h = spent();
            int[] want = {1, 1, 1, 1, 1, 0, 0};
            for (int i = 0; i < 7; i++) due("unspent(0, " + i + ", 5)", h.unspent(0, i, 5), want[i]);
        });
        Edges.edge(37, "0 for what there is not.", () -> {
            House h = spent();
            for (int node : NO_NODES) due("unspent(" + node + ", 0, 2)", h.unspent(node, 0, 2), 0);
            for (int i : new int[] {-1, 7, LEAST, MOST}) {
                for (int w = 0; w <= 5; w++) due("unspent(0, " + i + ", " + w + ")", h.unspent(0, i, w), 0);
            }
            for (int w : new int[] {-1, 6, LEAST, MOST}) due("unspent(0, 0, " + w + ")", h.unspent(0, 0, w), 0);
            due("unspent(1, 1, 2) of a node that has one", h.unspent(1, 1, 2), 0);
            h.down(0);
            for (int w = 0; w <= 5; w++) due("unspent(0, 0, " + w + "), DOWN", h.unspent(0, 0, w), 0);
        });
        Edges.edge(37, "0 for what there is not.", () -> {
            House h = fewer();
            for (int i = 5; i < 8; i++) {
                for (int w = 0; w <= 5; w++) due("unspent(0, " + i + ", " + w + ")", h.unspent(0, i, w), 0);
                due("spend(0, " + i + ", 0)", h.spend(0, i, 0), BAD);
            }
        });
    }

    /** A house that had seven UNSPENT, and has five. */
    private static House fewer() {
        House h = new House(1).grow(0, 1, 6);
        due("how many are UNSPENT", h.told(0, 4), 7);
        byte[] four = Lab.tx(Lab.ins(Plain.coin(0), 0, 0, Plain.coin(1), 0, 0, Plain.coin(2), 0, 0, Plain.coin(3), 0, 0), 1, 3);
        due("block 7", h.give(0, Plain.behind(6, Lab.reward(7, 1, 2), four)), 0);
        due("how many are UNSPENT", h.told(0, 4), 5);
        return h;
    }

    // ---- 38

    private static void find() {
        Edges.edge(38, "Which, of what is UNSPENT behind a node's TIP, has this ID and place (any int).", () -> {
            House h = spent();
            long id = Lab.idOf(Plain.draw(0, 1, 7, 4095, -1));
            due("find of the first", h.find(0, Plain.coin(1), 0), 0);
            due("find of place 0", h.find(0, id, 0), 5);
            due("find of place 1, the last", h.find(0, id, 1), 6);
            for (int place : new int[] {2, 3, 4, -1, 256, 257, LEAST, MOST}) due("find of place " + place, h.find(0, id, place), NO);
        });
        Edges.edge(38, "NO", () -> {
            due("find of what is spent", spent().find(0, Plain.coin(0), 0), NO);
            Edges.refused("find(0, 12345, 0)", h -> h.find(0, 12345, 0), NO);
        });
        Edges.edge(38, "BAD, IS_DOWN.", () -> {
            for (int node : NO_NODES) Edges.refused("find(" + node + ", ..)", h -> h.find(node, Plain.coin(0), 0), BAD);
            for (int place : new int[] {0, 9}) Edges.refused("find(2, .., " + place + ")", h -> h.find(2, Plain.coin(0), place), IS_DOWN);
        });
    }

    // ---- 39

    private static void balance() {
        Edges.edge(39, "All AMOUNTS that are UNSPENT behind a node's TIP and belong to a SEED's ADDRESS", () -> {
            House h = spent();
            long[][] want = {{0, 4 * 4096}, {3, 4096}, {7, 1}, {-1, 4095}, {1, 0}, {Long.MIN_VALUE, 0}};
            for (long[] w : want) due("balance(0, " + w[0] + ")", h.balance(0, w[0]), w[1]);
            due("balance(1, 0) of the other", h.balance(1, 0), 4096);
        });
        Edges.edge(39, "All AMOUNTS that are UNSPENT behind a node's TIP and belong to a SEED's ADDRESS", () -> {
            House h = fewer();
            long[] want = {3 * 4096, 0, 1, 1};
            for (int seed = 0; seed < 4; seed++) due("balance(0, " + seed + ")", h.balance(0, seed), want[seed]);
            for (int coin = 0; coin < 4; coin++) due("find of coin " + coin, h.find(0, Plain.coin(coin), 0), NO);
        });
        Edges.edge(39, "0 of a node that is DOWN, or that there is not.", () -> {
            House h = spent();
            for (int node : NO_NODES) due("balance(" + node + ", 0)", h.balance(node, 0), 0);
            h.down(0);
            due("balance(0, 0), DOWN", h.balance(0, 0), 0);
            due("balance(1, 0) of the other", h.balance(1, 0), 4096);
        });
    }

    // ---- 40

    private static void pooled() {
        Edges.edge(40, "TRANSACTION i of a node's POOL: ID (what = 0), FEE (1), how many bytes (2).", () -> {
            House h = new House(1).grow(0, 1, 4);
            h.drawCoin(0, 4096, 1).give(0, 6);
            h.drawCoin(1, 1, 1).give(0, 6);
            long[][] want = {{Lab.idOf(Plain.draw(0, 4096, 1)), 0, 91}, {Lab.idOf(Plain.draw(1, 1, 1)), 4095, 91}};
            for (int i = 0; i < 2; i++) {
                for (int w = 0; w < 3; w++) due("pooled(0, " + i + ", " + w + ")", h.pooled(0, i, w), want[i][w]);
            }
        });
        Edges.edge(40, "0 for what there is not.", () -> {
            House h = new House(2).grow(0, 1, 4);
            for (int w = 0; w < 3; w++) due("pooled(0, 0, " + w + ") of an empty POOL", h.pooled(0, 0, w), 0);
            h.drawCoin(0, 1, 1).give(0, 6);
            for (int node : NO_NODES) due("pooled(" + node + ", 0, 2)", h.pooled(node, 0, 2), 0);
            for (int i : new int[] {-1, 1, LEAST, MOST}) {
                for (int w = 0; w < 3; w++) due("pooled(0, " + i + ", " + w + ")", h.pooled(0, i, w), 0);
            }
            for (int w : new int[] {-1, 3, LEAST, MOST}) due("pooled(0, 0, " + w + ")", h.pooled(0, 0, w), 0);
            h.down(0);
            for (int w = 0; w < 3; w++) due("pooled(0, 0, " + w + "), DOWN", h.pooled(0, 0, w), 0);
        });
    }

    // ---- 41

    private static void dues() {
        Edges.edge(41, "BITS DUE (what = 0), the MIDDLE time (1), THE SUBSIDY (2) behind a node's TIP.", () -> {
            House h = new House(1);
            int[] fresh = {Lab.EASIEST, 1000, 4096};
            for (int w = 0; w < 3; w++) due("due(0, " + w + ") of a new one", h.due(0, w), fresh[w]);
            for (int i = 1; i <= 14; i++) h.mine(0, 0, 1000 + i);
            due("due(0, 0) behind 14", h.due(0, 0), Lab.EASIEST);
            h.mine(0, 0, 1015);
            due("due(0, 0) behind 15", h.due(0, 0), 0x2003FFFF);
            due("due(0, 1) behind 15", h.due(0, 1), 1010);
        });
        Edges.edge(41, "BITS DUE (what = 0), the MIDDLE time (1), THE SUBSIDY (2) behind a node's TIP.", () -> {
            House h = new House(1).grow(0, 1, 30);
            due("due(0, 2) behind 30", h.due(0, 2), 4096);
            h.grow(0, 31, 31);
            due("due(0, 2) behind 31", h.due(0, 2), 2048);
        });
        Edges.edge(41, "BAD, IS_DOWN.", () -> {
            for (int node : NO_NODES) Edges.refused("due(" + node + ", 0)", h -> h.due(node, 0), BAD);
            for (int w : new int[] {-1, 3, LEAST, MOST}) {
                Edges.refused("due(0, " + w + ")", h -> h.due(0, w), BAD);
                Edges.refused("due(2, " + w + "), DOWN", h -> h.due(2, w), BAD);
            }
        });
        Edges.edge(41, "BAD, IS_DOWN.", () -> {
            for (int w = 0; w < 3; w++) {
                int what = w;
                Edges.refused("due(2, " + what + ")", h -> h.due(2, what), IS_DOWN);
            }
        });
    }

    public static void main(String[] args) {
        all();
        Edges.run();
    }
}
