import java.math.BigInteger;
import java.nio.ByteBuffer;
import java.util.Arrays;

/** Edges of part 2 of the terms: transactions, blocks, bits, times, subsidies. */
public final class BlockEdgesTest {
    private static final int NO = Edges.NO, MOST = Integer.MAX_VALUE;
    /** Header of 0s but for the easiest BITS: with these its hash begins with 0FFFFF, and with 0FFFFE. */
    private static final long JUST_ABOVE = 561894L, JUST_BELOW = 8707078L;
    /** BITS whose TARGET has bytes in two words, and the least NONCE with which a header of 0s but for these meets it. */
    private static final int HARD = 0x1D7FFFFF;
    private static final long MEETS_HARD = 2640431L;

    private static void due(String what, long got, long want) {
        Edges.due(what, got, want);
    }

    static void all() {
        transactionForm();
        blockForm();
        roots();
        bits();
        hardTargets();
        works();
        first();
        bitsDue();
        hardBits();
        spans();
        forks();
        subsidies();
        middles();
        unspent();
    }

    private static void txIs(String what, byte[] tx, int want) {
        due("a transaction with " + what, new House(1).grow(0, 1, 3).judgeTx(0, tx), want);
    }

    private static void blockIs(String what, byte[] block, int want) {
        due("a block with " + what, new House(1).grow(0, 1, 3).judge(0, block), want);
    }

    /** As many bytes as its numbers say, all of them 0. */
    private static byte[] raw(int n, int m) {
        byte[] all = new byte[2 + (n == 0 ? 4 : 73 * n) + 16 * m];
        all[0] = (byte) n;
        all[1] = (byte) m;
        return all;
    }

    private static void both(int n, int m, int wantTx, int wantBlock) {
        txIs(n + " and " + m, raw(n, m), wantTx);
        blockIs(n + " and " + m, Plain.behind(3, Lab.reward(4, 1, 1), raw(n, m)), wantBlock);
    }

    // ---- a transaction

    private static void transactionForm() {
        Edges.term("a byte n, how many INPUTS (0 .. 4)", () -> {
            both(0, 1, 5, 5);
            both(1, 1, 10, 10);
            both(4, 1, 10, 10);
            both(5, 1, 1, 1);
            txIs("255 INPUTS", Lab.with(raw(4, 4), 0, 255), 1);
        });
        Edges.term("a byte m, how many OUTPUTS (1 .. 4)", () -> {
            both(1, 0, 1, 1);
            both(0, 0, 1, 1);
            both(1, 4, 10, 10);
            both(0, 4, 5, 5);
            both(1, 5, 1, 1);
            both(0, 5, 1, 1);
            both(4, 4, 10, 10);
            both(5, 5, 1, 1);
            txIs("255 OUTPUTS", Lab.with(raw(4, 4), 1, 255), 1);
        });
        Edges.term("with n = 0 (a REWARD) a HEIGHT, 4 bytes, 0 .. 2^31 - 1", () -> {
            for (int height : new int[] {0, MOST}) {
                txIs("HEIGHT " + height, Lab.reward(height, 1, 1), 5);
                blockIs("HEIGHT " + height, Plain.behind(3, Lab.reward(height, 1, 1)), 9);
            }
            for (int height : new int[] {Integer.MIN_VALUE, -1}) {
                txIs("HEIGHT " + height, Lab.reward(height, 1, 1), 1);
                blockIs("HEIGHT " + height, Plain.behind(3, Lab.reward(height, 1, 1)), 1);
                blockIs("HEIGHT " + height + " of another one", Plain.behind(3, Lab.reward(4, 1, 1), Lab.reward(height, 1, 1)), 1);
            }
        });
        Edges.term("a place (1 byte, 0 .. 3)", () -> {
            int[][] want = {{0, 10}, {3, 10}, {4, 1}, {128, 1}, {255, 1}};
            for (int[] w : want) {
                byte[] tx = raw(2, 1), last = raw(2, 1);
                tx[10] = (byte) w[0];
                last[83] = (byte) w[0];
                txIs("place " + w[0], tx, w[1]);
                txIs("place " + w[0] + " in its last INPUT", last, w[1]);
                blockIs("place " + w[0], Plain.behind(3, Lab.reward(4, 1, 1), last), w[1]);
            }
        });
        Edges.term("Its ID is SHORT of its bytes.", () -> {
            House h = new House(1).grow(0, 1, 3);
            byte[] tx = Plain.draw(0, 1, 1);
            h.giveTx(0, tx);
            due("pooled(0, 0, 0)", h.pooled(0, 0, 0), Model.shortOf(tx));
        });
        Edges.term("What its SIGNATURES are of, is its bytes with 0s in place of all SIGNATURES.", () -> {
            byte[] four = Lab.tx(Lab.ins(Plain.coin(0), 0, 0, Plain.coin(1), 0, 0, Plain.coin(2), 0, 0, Plain.coin(3), 0, 0), 1, 1);
            House h = new House(1).grow(0, 1, 6);
            due("four INPUTS", h.judgeTx(0, four), 0);
            h.load(four);
            for (int i = 0; i < 4; i++) {
                h.turn(2 + 73 * i + 9 + 63, 1);
                due("SIGNATURE " + i + " is another one", h.judge(0, 6), 11);
                h.turn(2 + 73 * i + 9 + 63, 1);
            }
        });
    }

    // ---- a block

    private static void blockForm() {
        Edges.term("TIME (4; 0 .. 2^31 - 1)", () -> {
            blockIs("TIME 2^31 - 1", Lab.craft(Plain.hash(3), MOST, Lab.EASIEST, Lab.reward(4, 1, 1)), 0);
            blockIs("TIME 2^31", Lab.craft(Plain.hash(3), Integer.MIN_VALUE, Lab.EASIEST, Lab.reward(4, 1, 1)), 1);
            blockIs("TIME 2^32 - 1", Lab.craft(Plain.hash(3), -1, Lab.EASIEST, Lab.reward(4, 1, 1)), 1);
            blockIs("TIME 0", Lab.craft(Plain.hash(3), 0, Lab.EASIEST, Lab.reward(4, 1, 1)), 8);
        });
        Edges.term("a byte, how many TRANSACTIONS (1 .. 8)", () -> {
            byte[][] many = new byte[9][];
            Arrays.fill(many, Lab.reward(4, 1, 1));
            blockIs("no TRANSACTION", Lab.with(Arrays.copyOf(Plain.block(4), 81), 80, 0), 1);
            blockIs("one TRANSACTION", Plain.block(4), 0);
            blockIs("eight TRANSACTIONS", Plain.behind(3, Arrays.copyOf(many, 8)), 5);
            blockIs("nine TRANSACTIONS", Plain.behind(3, many), 1);
            blockIs("one that says 255", Lab.with(Plain.block(4), 80, 255), 1);
            blockIs("one that says two", Lab.with(Plain.block(4), 80, 2), 1);
            blockIs("two that say one", Lab.with(Plain.behind(3, Arrays.copyOf(many, 2)), 80, 1), 1);
        });
        Edges.term("a byte, how many TRANSACTIONS (1 .. 8)", () -> {
            // Eight of the greatest transactions that there are.
            House h = new House(1).grow(0, 1, 31);
            byte[][] body = new byte[8][];
            body[0] = Lab.reward(32, 1, 1, 1, 1, 1, 1, 1, 1);
            for (int i = 0; i < 7; i++) {
                long[] ins = new long[12];
                for (int j = 0; j < 4; j++) ins[3 * j] = Plain.coin(4 * i + j);
                body[i + 1] = Lab.tx(ins, 1, 1, 1, 1, 1, 1, 1, 1);
            }
            byte[] block = Plain.behind(31, body);
            due("bytes", block.length, 81 + 70 + 7 * 358);
            due("it is right", h.give(0, block), 0);
            due("TRANSACTIONS", h.block(0, 32, 4), 8);
            due("UNSPENT", h.told(0, 4), 32 - 28 + 4 + 28);
            due("down(0)", h.down(0), 33);
            due("up(0)", h.up(0), 33);
            due("UNSPENT", h.told(0, 4), 32 - 28 + 4 + 28);
        });
        Edges.term("Its HASH is H(H(HEADER)).", () -> {
            House h = new House(1).grow(0, 1, 1);
            for (int k = 0; k < 4; k++) due("limb(0, 1, " + k + ")", h.limb(0, 1, k), Model.limbOf(new BigInteger(1, Model.hh(Arrays.copyOf(Plain.block(1), 80))), k));
        });
    }

    private static void roots() {
        Edges.term("again and again two by two H(H(both)), an odd last one as it is, until one is left.", () -> {
            byte[][] h = new byte[8][], txs = new byte[8][];
            for (int i = 0; i < 8; i++) {
                txs[i] = i % 2 == 0 ? Lab.reward(i, i, 1) : raw(1 + i / 2, 1);
                h[i] = Model.hh(txs[i]);
            }
            byte[] h01 = Model.hh(h[0], h[1]), h23 = Model.hh(h[2], h[3]), h45 = Model.hh(h[4], h[5]), h67 = Model.hh(h[6], h[7]);
            byte[] h0123 = Model.hh(h01, h23);
            byte[][] want = {h[0], h01, Model.hh(h01, h[2]), h0123, Model.hh(h0123, h[4]), Model.hh(h0123, h45),
                Model.hh(h0123, Model.hh(h45, h[6])), Model.hh(h0123, Model.hh(h45, h67))};
            for (int n = 1; n <= 8; n++) {
                byte[] tail = Model.join(new byte[16], new byte[] {(byte) n}, Model.join(Arrays.copyOf(txs, n)));
                House house = new House(1).load(Model.join(new byte[64], tail));
                due("root() of " + n, house.root(), 1);
                house.tapeIs("a block of " + n, Model.join(new byte[32], want[n - 1], tail));
            }
        });
    }

    // ---- bits

    private static byte[] head(int bits) {
        return ByteBuffer.allocate(80).putInt(68, bits).array();
    }

    private static void bitsAre(int bits, boolean right) {
        int got = new House(1).load(head(bits)).solve(0, 1);
        Edges.must("BITS " + Integer.toHexString(bits) + (right ? " are right" : " are not right"), right == (got == 1 || got == NO));
        byte[] block = Plain.block(4).clone();
        ByteBuffer.wrap(block).putInt(68, bits);
        if (!right) blockIs("BITS " + Integer.toHexString(bits), block, 3);
    }

    private static void bits() {
        Edges.term("right if e is 4 .. 32", () -> {
            for (int e : new int[] {4, 5, 31, 32}) bitsAre(e << 24 | 0x8000, true);
            for (int e : new int[] {0, 1, 2, 3, 33, 127, 128, 255}) bitsAre(e << 24 | 0x8000, false);
        });
        Edges.term("m is 32768 .. 8388607", () -> {
            for (int e : new int[] {4, 31}) {
                for (int m : new int[] {32768, 8388607}) bitsAre(e << 24 | m, true);
                for (int m : new int[] {0, 32767, 8388608, 0xFFFFFF}) bitsAre(e << 24 | m, false);
            }
            bitsAre(0x20008000, true);
            bitsAre(0x20007FFF, false);
        });
        Edges.term("and the TARGET m * 256^(e - 3) at most the EASIEST one, that of 0x200FFFFF.", () -> {
            bitsAre(0x200FFFFF, true);
            bitsAre(0x200FFFFE, true);
            bitsAre(0x20100000, false);
            bitsAre(0x207FFFFF, false);
            bitsAre(0x1F7FFFFF, true);
        });
        Edges.term("A HASH MEETS it, if it is, as a number, at most that.", () -> {
            House h = new House(1).load(head(Lab.EASIEST));
            due("a HASH just above", h.solve(JUST_ABOVE, 1), NO);
            due("a HASH just below", h.solve(JUST_BELOW, 1), 1);
            due("its first bytes", h.hash(true, 0) >>> 40, 0x0FFFFE);
            // The highest bit of a hash is none of a sign.
            long high = 0;
            while (Lab.hashOf(ByteBuffer.wrap(head(Lab.EASIEST)).putLong(72, high).array())[0] >= 0) high++;
            due("a HASH with its highest bit", h.solve(high, 1), NO);
        });
    }

    private static void hardTargets() {
        Edges.term("A HASH MEETS it, if it is, as a number, at most that.", () -> {
            House h = new House(1).load(head(HARD));
            due("the one before", h.solve(MEETS_HARD - 1, 1), NO);
            due("the one that meets", h.solve(MEETS_HARD, 1), 1);
            due("the one behind", h.solve(MEETS_HARD + 1, 1), NO);
            for (int e = 4; e <= 28; e++) {
                for (int m : new int[] {32768, 8388607}) {
                    h.reload(head(e << 24 | m));
                    due("BITS " + Integer.toHexString(e << 24 | m), h.solve(0, 20), NO);
                }
            }
        });
        Edges.term("A HASH MEETS it, if it is, as a number, at most that.", () -> {
            // No hash is known that is just a TARGET.
            for (int bits : new int[] {Lab.EASIEST, HARD, 0x04008000}) Edges.must("a TARGET meets itself", Inside.meetsItself(new House(1), bits));
        });
    }

    private static void works() {
        Edges.term("A block's WORK is 2^256 / (TARGET + 1), cut off", () -> {
            House h = fast(1100);
            due("BITS DUE", h.due(0, 0), 0x2009FFFF);
            due("block 16", h.mine(0, 1, 1200), 0);
            // 2^24 / 0x9FFFF is a bit more than 25.6.
            due("its WORK", h.limb(0, 16, 7) - h.limb(0, 15, 7), 25);
            due("WORK with the EASIEST one", h.limb(0, 15, 7) - h.limb(0, 14, 7), 16);
        });
        Edges.term("the TOTAL of a block is its WORK and that of all before it.", () -> {
            House h = new House(1).grow(0, 1, 3);
            h.give(0, Plain.fork(Plain.block(1), 2, 2000, 1));
            int[] want = {16, 32, 48, 64, 48};
            for (int k = 0; k < 5; k++) {
                due("TOTAL of " + k, h.limb(0, k, 7), want[k]);
                for (int w = 4; w < 7; w++) due("its higher limbs", h.limb(0, k, w), 0);
            }
        });
        Edges.term("the TOTAL of a block is its WORK and that of all before it.", () -> {
            House h = fast(1015);
            due("BITS DUE", h.due(0, 0), 0x2003FFFF);
            due("TOTAL of 15", h.limb(0, 15, 7), 256);
            due("block 16", h.mine(0, 1, 1016), 0);
            due("TOTAL of 16", h.limb(0, 16, 7), 320);
        });
    }

    /** A node with 15 blocks behind the FIRST one, a second each; but the last has this TIME. */
    private static House fast(int last) {
        House h = new House(1);
        for (int i = 1; i <= 14; i++) h.mine(0, 1, 1000 + i);
        due("block 15", h.mine(0, 1, last), 0);
        return h;
    }

    // ---- the FIRST block

    private static void first() {
        Edges.term("The FIRST block has 0s in place of a HASH before, TIME 1000, BITS 0x200FFFFF, one TRANSACTION: a REWARD of HEIGHT 0 with one OUTPUT of 4096 to the ADDRESS of SEED 0", () -> {
            House h = new House(6);
            byte[] reward = Model.join(new byte[] {0, 1, 0, 0, 0, 0}, Model.bytes(4096L), Model.bytes(Model.keyAddress(0)));
            byte[] want = Model.join(new byte[32], Model.hh(reward), Model.bytes(1000), Model.bytes(0x200FFFFF), Model.bytes(42L), new byte[] {1}, reward);
            for (int n = 0; n < 6; n++) {
                due("take(" + n + ", 0)", h.take(n, 0), 103);
                h.tapeIs("the FIRST block", want);
            }
        });
        Edges.term("its NONCE is the least with which it MEETS its TARGET.", () -> {
            House h = new House(1);
            h.take(0, 0);
            due("solve(0, 42)", h.solve(0, 42), NO);
            due("solve(0, 43)", h.solve(0, 43), 43);
            h.tapeIs("the FIRST block", Plain.block(0));
        });
        Edges.term("It is stored by each node as block 0 and lies on no disk.", () -> {
            House h = new House(2);
            for (int n = 0; n < 2; n++) {
                due("judge of it", h.judge(n, Plain.block(0)), 2);
                due("give of it", h.give(n, Plain.block(0)), 2);
                due("where the next would stand", h.told(n, 7), 0);
                for (int i = 0; i < 110; i++) due("peek(" + n + ", " + i + ")", h.peek(n, i), 0);
                h.down(n);
                due("up(" + n + ")", h.up(n), 1);
            }
        });
        Edges.term("A block's HEIGHT is one more than that of the one before.", () -> {
            House h = new House(1).grow(0, 1, 2);
            h.give(0, Plain.fork(Plain.block(0), 1, 2000, 1));
            int[] want = {0, 1, 2, 1};
            for (int k = 0; k < 4; k++) due("block(0, " + k + ", 1)", h.block(0, k, 1), want[k]);
        });
    }

    // ---- BITS DUE

    private static void dueBehind15(int span, int want) {
        House h = fast(1000 + span);
        due("BITS DUE behind S of " + span, h.due(0, 0), want);
        byte[] before = ByteBuffer.allocate(32).putLong(h.limb(0, 15, 0)).putLong(h.limb(0, 15, 1)).putLong(h.limb(0, 15, 2))
            .putLong(h.limb(0, 15, 3)).array();
        int time = 1000 + Math.max(20, span);
        due("a block with these", h.judge(0, Lab.craft(before, time, want, Lab.reward(16, 1, 1))), 0);
        due("a block with one less", h.judge(0, Lab.craft(before, time, want - 1, Lab.reward(16, 1, 1))), 7);
        if (want < Lab.EASIEST) due("a block with one more", h.judge(0, Lab.craft(before, time, want + 1, Lab.reward(16, 1, 1))), 7);
    }

    private static void bitsDue() {
        Edges.term("BITS DUE behind a block of HEIGHT h: those of that block; but if h + 1 is a multiple of 16", () -> {
            House h = new House(1);
            for (int i = 1; i <= 14; i++) {
                due("BITS DUE behind " + (i - 1), h.due(0, 0), Lab.EASIEST);
                h.mine(0, 1, 1000 + i);
            }
            due("BITS DUE behind 14", h.due(0, 0), Lab.EASIEST);
            h.mine(0, 1, 1015);
            due("BITS DUE behind 15", h.due(0, 0), 0x2003FFFF);
            h.mine(0, 1, 9000);
            due("BITS DUE behind 16", h.due(0, 0), 0x2003FFFF);
            due("BITS of 15", h.block(0, 15, 3), Lab.EASIEST);
            due("BITS of 16", h.block(0, 16, 3), 0x2003FFFF);
        });
        Edges.term("its TARGET times S / 160, cut off", () -> {
            // 661912.97 and 268697.34 times 256^29
            dueBehind15(101, 0x20000000 | 661912);
            dueBehind15(41, 0x20000000 | 268697);
        });
        Edges.term("S being its TIME less that of the block of HEIGHT h - 15 before it, 40 at least, 640 at most", () -> {
            for (int span : new int[] {15, 39, 40}) dueBehind15(span, 0x2003FFFF);
            dueBehind15(41, 0x20041999);
        });
        Edges.term("the EASIEST one, if that is less", () -> {
            dueBehind15(159, 0x200FE665);
            for (int span : new int[] {160, 161, 640, 641, 1000000}) dueBehind15(span, Lab.EASIEST);
        });
    }

    private static void hardBits() {
        Edges.term("as BITS with the least e for which m is at most 8388607, m cut off.", () -> {
            House h = new House(1);
            for (int i = 1; i <= 31; i++) due("block " + i, h.mine(0, 1, 1000 + i), 0);
            // 0x00FFFFC0 times 256^28: with e of 31 m would be 0xFFFFC0.
            due("a quarter twice", h.due(0, 0), 0x2000FFFF);
            for (int i = 32; i <= 47; i++) due("block " + i, h.mine(0, 1, 1000 + i), 0);
            due("a quarter three times", h.due(0, 0), 0x1F3FFFC0);
            due("block 48", h.mine(0, 1, 1048), 0);
            due("BITS of 48", h.block(0, 48, 3), 0x1F3FFFC0);
            due("its TARGET", h.limb(0, 48, 8), 0x003FFFC000000000L);
            due("its WORK", h.limb(0, 48, 7) - h.limb(0, 47, 7), 1024);
        });
    }

    /** Blocks 16 to 31 with BITS 0x2003FFFF: 16 and 31 have these TIMES, the others a second each. */
    private static int dueBehind31(int time16, int time31) {
        House h = fast(1015);
        due("block 16", h.mine(0, 1, time16), 0);
        for (int i = 17; i <= 30; i++) due("block " + i, h.mine(0, 1, 1000 + i), 0);
        due("block 31", h.mine(0, 1, time31), 0);
        due("BITS of 31", h.block(0, 31, 3), 0x2003FFFF);
        return h.due(0, 0);
    }

    private static void spans() {
        Edges.term("S being its TIME less that of the block of HEIGHT h - 15 before it, 40 at least, 640 at most", () -> {
            due("S of 639", dueBehind31(1016, 1016 + 639), 0x20000000 | 262143 * 639 / 160);
            for (int s : new int[] {640, 641, MOST - 1016}) due("S of " + s, dueBehind31(1016, 1016 + s), 0x200FFFFC);
        });
        Edges.term("S being its TIME less that of the block of HEIGHT h - 15 before it, 40 at least, 640 at most", () -> {
            // Block 31 may have a TIME before that of block 16.
            due("S of 0", dueBehind31(1031, 1031), 0x2000FFFF);
            due("S of -1", dueBehind31(1032, 1031), 0x2000FFFF);
            due("S below 0, as far as it goes", dueBehind31(MOST, 1031), 0x2000FFFF);
            due("S of 100", dueBehind31(1031, 1131), 0x20000000 | 262143 * 100 / 160);
        });
    }

    private static void forks() {
        Edges.term("BITS DUE behind a block of HEIGHT h", () -> {
            // Two chains: BITS are DUE by the TIMES of the one that a block is behind.
            House h = new House(1).grow(0, 1, 15);
            byte[] before = Plain.block(0);
            for (int i = 1; i <= 15; i++) {
                before = Plain.fork(before, i, 1000 + i, 7);
                due("block " + i + " of the other chain", h.give(0, before), 0);
            }
            due("BITS DUE", h.due(0, 0), Lab.EASIEST);
            due("behind the TIP", h.judge(0, Plain.block(16)), 0);
            due("behind the other one", h.judge(0, Plain.fork(before, 16, 1016, 7)), 7);
            due("behind the other one", h.judge(0, Lab.craft(Lab.hashOf(before), 1016, 0x2003FFFF, Lab.reward(16, 1, 1))), 0);
        });
    }

    // ---- subsidies, times

    private static void subsidies() {
        Edges.term("THE SUBSIDY of HEIGHT h is 4096 / 2^(h / 32) (both cut off).", () -> {
            House h = new House(1);
            int[][] want = {{0, 4096}, {30, 4096}, {31, 2048}, {62, 2048}, {63, 1024}, {94, 1024}, {95, 512}};
            int height = 0;
            for (int[] w : want) {
                h.grow(0, height + 1, w[0]);
                height = w[0];
                due("due(0, 2) behind " + w[0], h.due(0, 2), w[1]);
            }
        });
        Edges.term("THE SUBSIDY of HEIGHT h is 4096 / 2^(h / 32) (both cut off).", () -> {
            House h = new House(1).grow(0, 1, 30);
            due("4096 at 31", h.judge(0, Plain.behind(30, Lab.reward(31, 4096, 1))), 0);
            due("4097 at 31", h.judge(0, Plain.behind(30, Lab.reward(31, 4097, 1))), 14);
            h.grow(0, 31, 31);
            due("2048 at 32", h.judge(0, Plain.behind(31, Lab.reward(32, 2048, 1))), 0);
            due("2049 at 32", h.judge(0, Plain.behind(31, Lab.reward(32, 2049, 1))), 14);
        });
    }

    private static void middles() {
        Edges.term("MIDDLE time behind a block: of the TIMES of it and of those before it, eleven at most, the one at place (how many) / 2, cut off, when they are in order, from 0.", () -> {
            House h = new House(1);
            int[] times = {1000, 1100, 9000, 1101, 1102, 8000, 1200, 7000, 6000, 1300, 1400, 1500, 1450, MOST};
            due("the MIDDLE time behind the FIRST one", h.due(0, 1), 1000);
            for (int i = 1; i < times.length; i++) {
                due("block " + i, h.mine(0, 1, times[i]), 0);
                int[] last = Arrays.copyOfRange(times, Math.max(0, i - 10), i + 1);
                Arrays.sort(last);
                due("the MIDDLE time behind " + i, h.due(0, 1), last[last.length / 2]);
            }
        });
        Edges.term("eleven at most", () -> {
            // Of ten the one at place 5, of eleven at place 5, of twelve blocks the FIRST one does not count.
            House h = new House(1).grow(0, 1, 9);
            due("of ten", h.due(0, 1), Plain.time(5));
            h.grow(0, 10, 10);
            due("of eleven", h.due(0, 1), Plain.time(5));
            h.grow(0, 11, 11);
            due("of twelve", h.due(0, 1), Plain.time(6));
            due("a block of that TIME", h.judge(0, Lab.craft(Plain.hash(11), Plain.time(6), Lab.EASIEST, Lab.reward(12, 1, 1))), 8);
            due("a block a second later", h.judge(0, Lab.craft(Plain.hash(11), Plain.time(6) + 1, Lab.EASIEST, Lab.reward(12, 1, 1))), 0);
        });
    }

    // ---- what is UNSPENT

    private static void unspent() {
        Edges.term("UNSPENT behind a block are OUTPUTS, each with the ID and place by which it is known, in the order in which they came", () -> {
            House h = new House(1).grow(0, 1, 2);
            byte[] reward = Lab.reward(3, 1, 1, 2, 2, 3, 3, 4, 4);
            due("block 3", h.give(0, Plain.behind(2, reward)), 0);
            due("how many", h.told(0, 4), 7);
            for (int i = 0; i < 3; i++) due("find of coin " + i, h.find(0, Plain.coin(i), 0), i);
            for (int i = 0; i < 4; i++) due("find of place " + i, h.find(0, Lab.idOf(reward), i), 3 + i);
        });
        Edges.term("TRANSACTION by TRANSACTION, as they stand in the block, what it spends goes, then its OUTPUTS come, in order.", () -> {
            House h = new House(1).grow(0, 1, 4);
            byte[] a = Plain.draw(0, 10, 1, 20, 2, 30, 3), b = Lab.tx(Lab.ins(Lab.idOf(a), 1, 2), 20, 5), reward = Lab.reward(5, 1, 1);
            due("block 5", h.give(0, Plain.behind(4, reward, a, b)), 0);
            long[][] want = {{Plain.coin(1), 0}, {Plain.coin(2), 0}, {Plain.coin(3), 0}, {Plain.coin(4), 0}, {Lab.idOf(reward), 0},
                {Lab.idOf(a), 0}, {Lab.idOf(a), 2}, {Lab.idOf(b), 0}};
            due("how many", h.told(0, 4), want.length);
            for (int i = 0; i < want.length; i++) due("find of " + i, h.find(0, want[i][0], (int) want[i][1]), i);
            due("what was spent", h.find(0, Plain.coin(0), 0), NO);
            due("what came and went", h.find(0, Lab.idOf(a), 1), NO);
        });
    }

    public static void main(String[] args) {
        all();
        Edges.run();
    }
}
