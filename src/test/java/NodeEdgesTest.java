import java.nio.ByteBuffer;
import java.util.Arrays;

/** Edges of part 3 of the terms: tips, pools, orphans, disks. */
public final class NodeEdgesTest {
    private static final int IS_DOWN = Edges.IS_DOWN, NO = Edges.NO, DISK = 12288;
    private static final int RECORD = 109;

    private static void due(String what, long got, long want) {
        Edges.due(what, got, want);
    }

    static void all() {
        tips();
        pools();
        poolsAnew();
        poolsFull();
        poolsOfGreatest();
        lost();
        orphans();
        disks();
        rooms();
        writing();
        fuses();
        reading();
        readingJudged();
        readingEnds();
        upAgain();
    }

    /** Block k of a node is this one. */
    private static void blockIs(House h, int node, int k, byte[] block) {
        due("the HASH of block " + k, h.limb(node, k, 3), ByteBuffer.wrap(Lab.hashOf(block)).getLong(24));
    }

    private static byte[][] brothers(byte[] before, int height, int many) {
        byte[][] all = new byte[many][];
        for (int i = 0; i < many; i++) all[i] = Plain.fork(before, height, 3000 + i, i);
        return all;
    }

    // ---- tips

    private static void tips() {
        Edges.term("A node is UP or DOWN, UP at first.", () -> {
            House h = new House(6);
            for (int n = 0; n < 6; n++) due("told(" + n + ", 0)", h.told(n, 0), 1);
        });
        Edges.term("It has blocks in the order in which they were STORED, from 0", () -> {
            House h = new House(1);
            byte[][] b = brothers(Plain.block(0), 1, 3);
            for (byte[] block : b) due("give", h.give(0, block), 0);
            blockIs(h, 0, 0, Plain.block(0));
            for (int k = 0; k < 3; k++) blockIs(h, 0, k + 1, b[k]);
        });
        Edges.term("its TIP: of those of most TOTAL the one that was STORED first.", () -> {
            House h = new House(1);
            byte[][] b = brothers(Plain.block(0), 1, 2);
            h.give(0, b[0]);
            h.give(0, b[1]);
            due("the TIP of two that are equal", h.told(0, 2), 1);
            h.give(0, Plain.fork(b[1], 2, 4000, 1));
            due("the TIP, when the other has more", h.told(0, 2), 3);
            h.give(0, Plain.fork(b[0], 2, 4000, 1));
            due("the TIP, when both are equal again", h.told(0, 2), 3);
            h.down(0);
            h.up(0);
            due("the TIP, UP again", h.told(0, 2), 3);
        });
        Edges.term("its TIP: of those of most TOTAL the one that was STORED first.", () -> {
            // A block of HEIGHT 16 and a WORK of 64 stands against one of HEIGHT 18, of 19 times 16.
            House h = new House(1).grow(0, 1, 18);
            byte[] before = Plain.block(0);
            for (int i = 1; i <= 15; i++) {
                before = Plain.fork(before, i, 1000 + i, 7);
                due("block " + i + " of the other chain", h.give(0, before), 0);
            }
            due("the TIP's HEIGHT", h.told(0, 3), 18);
            due("block 16", h.give(0, Lab.craft(Lab.hashOf(before), 1016, 0x2003FFFF, Lab.reward(16, 1, 7))), 0);
            due("the TIP's HEIGHT", h.told(0, 3), 16);
            due("the TIP", h.told(0, 2), 18 + 16);
            due("at(0, 17)", h.at(0, 17), Edges.BAD);
            due("what is UNSPENT", h.told(0, 4), 17);
        });
    }

    // ---- the POOL

    private static void pools() {
        Edges.term("Its POOL: TRANSACTIONS (16 at most), judged behind its TIP (at the next HEIGHT).", () -> {
            House h = new House(1).grow(0, 1, 18);
            due("coin 15 at 19", h.drawCoin(15, 1, 1).give(0, 6), 0);
            due("coin 16 at 19", h.drawCoin(16, 1, 1).give(0, 6), 10);
            for (int i = 0; i < 15; i++) due("into the POOL", h.drawCoin(i, 1, 1).give(0, 6), 0);
            h.grow(0, 19, 19);
            due("in the POOL", h.told(0, 5), 9);
            due("coin 16 at 20", h.drawCoin(16, 1, 1).give(0, 6), 0);
        });
        Edges.term("if the TIP is another one by that, the POOL is made anew", () -> {
            House h = new House(1).grow(0, 1, 4);
            byte[] tx = Plain.draw(0, 1, 1);
            h.giveTx(0, tx);
            byte[] beside = Lab.craft(Plain.hash(3), 4000, Lab.EASIEST, Lab.reward(4, 1, 1), tx);
            due("a block beside the TIP with the transaction", h.give(0, beside), 0);
            due("the TIP stays", h.told(0, 2), 4);
            due("it is in the POOL still", h.told(0, 5), 1);
            due("one more behind that", h.give(0, Plain.fork(beside, 5, 4001, 1)), 0);
            due("the TIP is another one", h.told(0, 2), 6);
            due("it is in the POOL no more", h.told(0, 5), 0);
        });
    }

    /** Node 0 has 19 plain blocks, and block 20 with transactions of coins 0 and 1. */
    private static House twenty() {
        House h = new House(1).grow(0, 1, 19);
        due("block 20", h.give(0, Plain.behind(19, Lab.reward(20, 1, 1), Plain.draw(0, 1, 1), Plain.draw(1, 1, 1))), 0);
        return h;
    }

    /** Two blocks behind block 19 make another chain. */
    private static void leave(House h) {
        byte[] other = Plain.fork(Plain.block(19), 20, 5000, 8);
        due("block 20 of the other chain", h.give(0, other), 0);
        due("block 21 of the other chain", h.give(0, Plain.fork(other, 21, 5001, 8)), 0);
        due("the TIP's HEIGHT", h.told(0, 3), 21);
    }

    private static void poolIs(House h, byte[]... txs) {
        due("how many in the POOL", h.told(0, 5), txs.length);
        for (int i = 0; i < txs.length; i++) due("transaction " + i, h.pooled(0, i, 0), Lab.idOf(txs[i]));
    }

    private static void poolsAnew() {
        Edges.term("The POOL anew: what was in it, in order, then the TRANSACTIONS (but REWARDS) of the blocks that the old TIP's chain has and the new one's hasn't, by HEIGHTS and places", () -> {
            House h = twenty();
            byte[] b21 = Lab.craft(Lab.hashOf(Plain.behind(19, Lab.reward(20, 1, 1), Plain.draw(0, 1, 1), Plain.draw(1, 1, 1))), 4000,
                Lab.EASIEST, Lab.reward(21, 1, 1), Plain.draw(3, 1, 1), Plain.draw(2, 1, 1));
            due("block 21", h.give(0, b21), 0);
            h.drawCoin(5, 1, 1).give(0, 6);
            h.drawCoin(4, 1, 1).give(0, 6);
            byte[] other = Plain.fork(Plain.block(19), 20, 5000, 8), next = Plain.fork(other, 21, 5001, 8);
            h.give(0, other);
            h.give(0, next);
            poolIs(h, Plain.draw(5, 1, 1), Plain.draw(4, 1, 1));
            due("block 22 of the other chain", h.give(0, Plain.fork(next, 22, 5002, 8)), 0);
            poolIs(h, Plain.draw(5, 1, 1), Plain.draw(4, 1, 1), Plain.draw(0, 1, 1), Plain.draw(1, 1, 1), Plain.draw(3, 1, 1), Plain.draw(2, 1, 1));
        });
        Edges.term("The POOL anew: what was in it, in order", () -> {
            // Not what is in the POOL of another node, or was in its own.
            House h = new House(2).grow(0, 1, 5).grow(1, 1, 5);
            due("into the POOL", h.drawCoin(0, 1, 1).give(0, 6), 0);
            due("into the POOL", h.drawCoin(1, 1, 1).give(0, 6), 0);
            due("block 6", h.give(0, Plain.block(6)), 0);
            due("block 6", h.give(1, Plain.block(6)), 0);
            poolIs(h, Plain.draw(0, 1, 1), Plain.draw(1, 1, 1));
            due("the POOL of node 1", h.told(1, 5), 0);
            h.down(0);
            h.up(0);
            due("block 7", h.give(0, Plain.block(7)), 0);
            due("the POOL of node 0", h.told(0, 5), 0);
        });
        Edges.term("each is in it, if it would be TAKEN (see below), else it goes.", () -> {
            House h = twenty();
            due("what came in block 20", h.giveTx(0, Lab.tx(Lab.ins(Lab.idOf(Plain.draw(0, 1, 1)), 0, 1), 1, 1)), 0);
            due("a coin", h.drawCoin(2, 1, 1).give(0, 6), 0);
            leave(h);
            poolIs(h, Plain.draw(2, 1, 1), Plain.draw(0, 1, 1), Plain.draw(1, 1, 1));
        });
        Edges.term("each is in it, if it would be TAKEN (see below), else it goes.", () -> {
            // The new chain spends coin 0 in another way.
            House h = twenty();
            byte[] other = Lab.craft(Plain.hash(19), 5000, Lab.EASIEST, Lab.reward(20, 1, 8), Plain.draw(0, 2, 2));
            due("block 20 of the other chain", h.give(0, other), 0);
            due("block 21 of the other chain", h.give(0, Plain.fork(other, 21, 5001, 8)), 0);
            poolIs(h, Plain.draw(1, 1, 1));
        });
        Edges.term("each is in it, if it would be TAKEN (see below), else it goes.", () -> {
            // The new TIP is lower: coins are not ripe there that were ripe for block 19.
            House h = new House(1).grow(0, 1, 18);
            byte[] before = Plain.block(8);
            for (int i = 9; i <= 15; i++) {
                before = Plain.fork(before, i, Plain.time(8) + i - 8, 7);
                due("block " + i + " of the other chain", h.give(0, before), 0);
            }
            due("coin 8", h.drawCoin(8, 1, 1).give(0, 6), 0);
            due("coin 15", h.drawCoin(15, 1, 1).give(0, 6), 0);
            int bits = Model.toBits(Model.EASIEST.multiply(java.math.BigInteger.valueOf(95)).divide(java.math.BigInteger.valueOf(160)));
            byte[] high = Lab.craft(Lab.hashOf(before), 1100, bits, Lab.reward(16, 1, 7));
            due("block 16 of the other chain", h.give(0, high), 0);
            due("block 17 of the other chain", h.give(0, high = Lab.craft(Lab.hashOf(high), 1101, bits, Lab.reward(17, 1, 7))), 0);
            due("the TIP's HEIGHT", h.told(0, 3), 17);
            poolIs(h, Plain.draw(8, 1, 1));
        });
    }

    private static void poolsFull() {
        Edges.term("each is in it, if it would be TAKEN (see below), else it goes.", () -> {
            House h = twenty();
            byte[][] want = new byte[16][];
            for (int i = 0; i < 16; i++) {
                want[i] = Plain.draw(i + 2, 1, 1);
                due("into the POOL", h.drawCoin(i + 2, 1, 1).give(0, 6), 0);
            }
            leave(h);
            poolIs(h, want);
        });
        Edges.term("each is in it, if it would be TAKEN (see below), else it goes.", () -> {
            House h = twenty();
            byte[][] want = new byte[16][];
            for (int i = 0; i < 15; i++) {
                want[i] = Plain.draw(i + 2, 1, 1);
                due("into the POOL", h.drawCoin(i + 2, 1, 1).give(0, 6), 0);
            }
            want[15] = Plain.draw(0, 1, 1);
            leave(h);
            poolIs(h, want);
        });
    }

    /** Puts a transaction of the coins of four heights, with four outputs, into the POOL of node 0. */
    private static byte[] great(House h, int from) {
        long[] ins = new long[12];
        h.begin();
        for (int k = 0; k < 4; k++) {
            ins[3 * k] = Plain.coin(from + k);
            h.input(ins[3 * k], 0, 0);
        }
        for (int k = 0; k < 4; k++) h.output(1, Model.keyAddress(0));
        due("sign", h.sign(0), 358);
        due("into the POOL", h.give(0, 6), 0);
        return Lab.tx(ins, 1, 0, 1, 0, 1, 0, 1, 0);
    }

    private static void poolsOfGreatest() {
        Edges.term("Its POOL: TRANSACTIONS (16 at most), judged behind its TIP (at the next HEIGHT).", () -> {
            House h = new House(1).grow(0, 1, 67);
            byte[][] want = new byte[16][];
            for (int i = 0; i < 16; i++) want[i] = great(h, 4 * i);
            poolIs(h, want);
            due("block 68", h.give(0, Plain.block(68)), 0);
            poolIs(h, want);
            due("bytes of the last one", h.pooled(0, 15, 2), 358);
        });
    }

    // ---- ORPHANS

    private static void lost() {
        Edges.term("LOST ones: ORPHANS, 8 at most; when one more comes the oldest goes", () -> {
            House h = new House(1);
            byte[][] b = brothers(Plain.block(1), 2, 10);
            for (int i = 0; i < 10; i++) {
                due("an ORPHAN", h.give(0, b[i]), 6);
                due("told(0, 6)", h.told(0, 6), Math.min(8, i + 1));
            }
            due("the block before", h.give(0, Plain.block(1)), 0);
            due("blocks STORED", h.told(0, 1), 2 + 8);
            for (int i = 2; i < 10; i++) blockIs(h, 0, i, b[i]);
            due("the oldest one went", h.judge(0, b[0]), 0);
            due("and the next one", h.judge(0, b[1]), 0);
        });
        Edges.term("LOST ones: ORPHANS, 8 at most; when one more comes the oldest goes", () -> {
            // The greatest that there are: node 0 has seven transactions of four and four in its POOL.
            House h = new House(2).grow(0, 1, 31);
            for (int i = 0; i < 7; i++) {
                h.begin();
                for (int k = 0; k < 4; k++) h.input(Plain.coin(4 * i + k), 0, 0);
                for (int k = 0; k < 4; k++) h.output(1, k);
                h.sign(0);
                due("into the POOL", h.give(0, 6), 0);
            }
            for (int i = 0; i < 9; i++) {
                due("a block of eight", h.assemble(0, i, 5000 + i), 103 + 7 * 358);
                Edges.must("it is solved", h.solve(0, 2000) > 0);
                due("an ORPHAN of node 1", h.give(1, 5), 6);
            }
            due("told(1, 6)", h.told(1, 6), 8);
            for (int i = 1; i <= 31; i++) {
                h.take(0, i);
                due("block " + i, h.give(1, 5), 0);
            }
            // Three have room on its disk.
            due("blocks STORED", h.told(1, 1), 35);
            due("told(1, 6)", h.told(1, 6), 0);
            for (int i = 1; i <= 3; i++) due("TIME of " + i, h.block(1, 31 + i, 2), 5000 + i);
        });
        Edges.term("none is there twice.", () -> {
            House h = new House(1);
            byte[][] b = brothers(Plain.block(1), 2, 8);
            for (byte[] block : b) due("an ORPHAN", h.give(0, block), 6);
            due("what was asked of nobody", h.house(4), 8);
            for (int i : new int[] {0, 7, 3}) due("an ORPHAN again", h.give(0, b[i]), 6);
            due("told(0, 6)", h.told(0, 6), 8);
            due("nothing more was asked", h.house(4), 8);
            due("the block before", h.give(0, Plain.block(1)), 0);
            for (int i = 0; i < 8; i++) blockIs(h, 0, i + 2, b[i]);
        });
    }

    private static void orphans() {
        Edges.term("then the ORPHANS behind it, those that were there, the oldest first, are ORPHANS no more and judged, each, if it is STORED, likewise, before the next one.", () -> {
            House h = new House(2);
            h.link(0, 1, 1);
            byte[][] b = brothers(Plain.block(1), 2, 2);
            byte[] child = Plain.fork(b[0], 3, 4000, 1), last = Plain.fork(child, 4, 4001, 1), other = Plain.block(9);
            for (byte[] block : new byte[][] {last, b[0], b[1], other, child}) due("an ORPHAN", h.give(0, block), 6);
            due("the block before", h.give(0, Plain.block(1)), 0);
            byte[][] want = {Plain.block(1), b[0], child, last, b[1]};
            due("blocks STORED", h.told(0, 1), 1 + want.length);
            due("ORPHANS", h.told(0, 6), 1);
            due("told to node 1", h.house(2), want.length);
            for (int i = 0; i < want.length; i++) {
                blockIs(h, 0, i + 1, want[i]);
                due("what was told", h.messageByte(i, 31), Lab.hashOf(want[i])[31] & 255);
                due("what was told", h.messageByte(i, 30), Lab.hashOf(want[i])[30] & 255);
            }
        });
        Edges.term("are ORPHANS no more and judged", () -> {
            House h = new House(1);
            byte[] wrong = Lab.craft(Plain.hash(1), 3000, Lab.EASIEST, Lab.reward(2, 5000, 1));
            due("an ORPHAN that is wrong", h.give(0, wrong), 6);
            due("an ORPHAN behind it", h.give(0, Plain.fork(wrong, 3, 3001, 1)), 6);
            due("the block before", h.give(0, Plain.block(1)), 0);
            due("blocks STORED", h.told(0, 1), 2);
            due("ORPHANS", h.told(0, 6), 1);
            due("it is judged as ever", h.judge(0, wrong), 14);
        });
        Edges.term("are ORPHANS no more and judged", () -> {
            // All eight in a row, and then one more.
            House h = new House(1);
            for (int i = 10; i >= 2; i--) due("an ORPHAN", h.give(0, Plain.block(i)), 6);
            due("the block before", h.give(0, Plain.block(1)), 0);
            due("the TIP's HEIGHT", h.told(0, 3), 9);
            due("ORPHANS", h.told(0, 6), 0);
            due("the one that went", h.give(0, Plain.block(10)), 0);
        });
    }

    // ---- THE DISK

    private static void disks() {
        Edges.term("THE DISK has 12288 bytes, at first 0.", () -> {
            for (int from = 0; from < DISK; from += 512) {
                House h = new House(1);
                for (int i = from; i < from + 512; i++) due("peek(0, " + i + ")", h.peek(0, i), 0);
            }
            due("peek(0, 12288)", new House(1).peek(0, DISK), Edges.BAD);
        });
        Edges.term("A RECORD is a block's length (2 bytes), its bytes, and the first 4 bytes of H(the 2 bytes of its place on the disk, the block's bytes).", () -> {
            House h = new House(1).grow(0, 1, 6);
            byte[] longer = Plain.behind(6, Lab.reward(7, 1, 1), Plain.draw(0, 1, 1), Plain.draw(1, 1, 1));
            due("a block of more than 255 bytes", h.give(0, longer), 0);
            h.diskIs("the last", 0, 6 * RECORD, Plain.record(6 * RECORD, longer));
            due("where the next would stand", h.told(0, 7), 6 * RECORD + longer.length + 6);
        });
        Edges.term("They stand one behind the other, from 0 on.", () -> {
            House h = new House(1).grow(0, 1, 3);
            for (int i = 0; i < 3; i++) h.diskIs("record " + i, 0, i * RECORD, Plain.record(i * RECORD, Plain.block(i + 1)));
            due("where the next would stand", h.told(0, 7), 3 * RECORD);
        });
    }

    /** Behind 109 plain blocks one with a transaction: its record ends at 12177. */
    private static byte[] upTo12177(House h) {
        h.grow(0, 1, 109);
        byte[] block = Plain.behind(109, Lab.reward(110, 1, 1, 1, 1, 1, 1, 1, 1), Plain.draw(0, 1, 1, 1, 1, 1, 1, 1, 1));
        due("block 110", h.give(0, block), 0);
        due("where the next would stand", h.told(0, 7), 12177);
        return block;
    }

    /** Behind 105 plain blocks three longer ones: the last record ends at 12178. */
    private static byte[] upTo12178(House h) {
        h.grow(0, 1, 105);
        byte[] a = Plain.behind(105, Lab.reward(106, 1, 1, 1, 1, 1, 1, 1, 1), Plain.draw(0, 1, 1, 1, 1, 1, 1, 1, 1),
            Plain.draw(1, 1, 1, 1, 1, 1, 1, 1, 1));
        byte[] b = Lab.craft(Lab.hashOf(a), Plain.time(107), Lab.EASIEST, Lab.reward(107, 1, 1, 1, 1, 1, 1, 1, 1));
        byte[] c = Lab.craft(Lab.hashOf(b), Plain.time(108), Lab.EASIEST, Lab.reward(108, 1, 1, 1, 1, 1, 1));
        for (byte[] block : new byte[][] {a, b, c}) due("a longer block", h.give(0, block), 0);
        due("where the next would stand", h.told(0, 7), 12178);
        return c;
    }

    private static void rooms() {
        Edges.term("To be STORED a block's RECORD must have room, with 2 bytes behind it.", () -> {
            House h = new House(1);
            byte[] before = upTo12177(h), last = Plain.fork(before, 111, Plain.time(111), 1);
            byte[] longer = Lab.craft(Lab.hashOf(before), Plain.time(111), Lab.EASIEST, Lab.reward(111, 1, 1, 1, 1));
            due("one that has 16 bytes more", h.judge(0, longer), 15);
            due("one that has just room", h.judge(0, last), 0);
            due("one that has just room", h.give(0, last), 0);
            due("where the next would stand", h.told(0, 7), 12286);
            due("the next", h.judge(0, Plain.fork(last, 112, Plain.time(112), 1)), 15);
            h.down(0);
            due("up(0)", h.up(0), 112);
        });
        Edges.term("15 ROOM: it has no room on the node's disk.", () -> {
            House h = new House(1);
            byte[] before = upTo12178(h), last = Plain.fork(before, 109, Plain.time(109), 1);
            due("one byte too many", h.judge(0, last), 15);
            due("one byte too many", h.give(0, last), 15);
            due("PAY comes before ROOM", h.judge(0, Lab.craft(Lab.hashOf(before), Plain.time(109), Lab.EASIEST, Lab.reward(109, 5000, 1))), 14);
            due("blocks STORED", h.told(0, 1), 109);
            due("it is UP", h.told(0, 0), 1);
            due("where the next would stand", h.told(0, 7), 12178);
            due("nothing is written", h.peek(0, 12178 + RECORD - 1), 0);
            due("an ORPHAN", h.give(0, Plain.fork(last, 110, Plain.time(110), 1)), 6);
        });
    }

    // ---- writing

    /** A house whose disk has 0x77 where the first record will be and behind it. */
    private static House scribbled() {
        House h = new House(2);
        h.link(0, 1, 1);
        for (int i = 0; i < RECORD + 3; i++) h.poke(0, i, 0x77);
        return h;
    }

    private static byte[] cutAt(int written) {
        byte[] disk = new byte[RECORD + 3], record = Plain.record(0, Plain.block(1));
        Arrays.fill(disk, (byte) 0x77);
        disk[0] = disk[1] = disk[RECORD] = disk[RECORD + 1] = 0;
        System.arraycopy(record, RECORD - written, disk, RECORD - written, written);
        return disk;
    }

    private static void writing() {
        Edges.term("First these 2 bytes, and those of its length, become 0 (the FUSE does not count them)", () -> {
            House h = scribbled();
            h.fuse(0, 0);
            due("give", h.give(0, Plain.block(1)), IS_DOWN);
            h.diskIs("nothing is written", 0, 0, cutAt(0));
        });
        Edges.term("then the RECORD's bytes are written, from the last one to the first (so that the length comes last)", () -> {
            for (int n : new int[] {1, 4, 5, 60, 107}) {
                House h = scribbled();
                h.fuse(0, n);
                due("give", h.give(0, Plain.block(1)), IS_DOWN);
                h.diskIs(n + " are written", 0, 0, cutAt(n));
                due("up(0)", h.up(0), 1);
            }
            House h = scribbled();
            due("give", h.give(0, Plain.block(1)), 0);
            h.diskIs("all are written", 0, 0, cutAt(RECORD));
        });
        Edges.term("then the RECORD's bytes are written, from the last one to the first (so that the length comes last)", () -> {
            // The highest byte of a length below 256 is 0 already, that of a longer block is not.
            House h = new House(1);
            h.fuse(0, RECORD - 1);
            due("give", h.give(0, Plain.block(1)), IS_DOWN);
            due("up(0)", h.up(0), 2);
            h.grow(0, 2, 5);
            byte[] longer = Plain.behind(5, Lab.reward(6, 1, 1), Plain.draw(0, 1, 1), Plain.draw(1, 1, 1));
            h.fuse(0, longer.length + 5);
            due("give", h.give(0, longer), IS_DOWN);
            due("up(0)", h.up(0), 6);
            h.fuse(0, longer.length + 6);
            due("give", h.give(0, longer), 0);
        });
    }

    private static void fuses() {
        Edges.term("when the FUSE has come to nothing and one more would be written, the node goes DOWN before it: the block is not STORED then, nothing else is done by the call, or message.", () -> {
            House h = new House(2);
            h.link(0, 1, 1);
            h.fuse(0, RECORD);
            due("give with just enough", h.give(0, Plain.block(1)), 0);
            due("its FUSE has come to nothing, it is UP", h.told(0, 8), 0);
            due("it is told", h.house(2), 1);
            due("give with nothing left", h.give(0, Plain.block(2)), IS_DOWN);
            due("it is DOWN", h.told(0, 0), 0);
            due("nothing is told", h.house(2), 1);
            due("up(0)", h.up(0), 2);
        });
        Edges.term("the block is not STORED then, nothing else is done by the call, or message.", () -> {
            House h = new House(3);
            h.link(0, 1, 1);
            h.link(1, 2, 1);
            byte[][] b = brothers(Plain.block(1), 2, 2);
            for (byte[] block : b) due("an ORPHAN", h.give(1, block), 6);
            h.fuse(1, RECORD + RECORD - 1);
            h.post(0, 1, 5, Plain.block(1));
            h.post(0, 1, 5, Plain.block(2));
            due("tick(1): the second comes to a node that is DOWN", h.tick(1), 1);
            due("gone: two that were asked of nobody, and that one", h.house(4), 3);
            due("block 1 was told to node 2, the ORPHAN was not", h.house(2), 1);
            due("told(1, 0)", h.told(1, 0), 0);
            due("told(1, 9)", h.told(1, 9), 1);
            due("told(1, 10)", h.told(1, 10), 0);
            // The highest byte of the length is all that is missing, and it is 0.
            due("up(1)", h.up(1), 3);
            due("ORPHANS", h.told(1, 6), 0);
        });
        Edges.term("the block is not STORED then, nothing else is done by the call, or message.", () -> {
            // What is not written as a block is right takes nothing of the FUSE.
            House h = new House(1).grow(0, 1, 4);
            h.fuse(0, 0);
            due("KNOWN", h.give(0, Plain.block(1)), 2);
            due("an ORPHAN", h.give(0, Plain.block(9)), 6);
            due("TIME", h.give(0, Plain.fork(Plain.block(4), 5, 1000, 1)), 8);
            due("a transaction", h.giveTx(0, Plain.draw(0, 1, 1)), 0);
            due("its FUSE", h.told(0, 8), 0);
            due("a right one", h.give(0, Plain.block(5)), IS_DOWN);
        });
    }

    // ---- reading

    /** Two plain blocks, and behind them a record of a block on the disk: how many there are, UP again. */
    private static int upWith(byte[] record) {
        House h = new House(1).grow(0, 1, 2);
        h.pokeAll(0, 2 * RECORD, record);
        due("down(0)", h.down(0), 3);
        int many = h.up(0);
        due("where the next would stand", h.told(0, 7), many == 3 ? 2 * RECORD : 2 * RECORD + record.length);
        due("the TIP's HEIGHT", h.told(0, 3), many - 1);
        due("what is UNSPENT", h.told(0, 4), many);
        return many;
    }

    private static byte[] third() {
        return Plain.record(2 * RECORD, Plain.block(3));
    }

    private static void reading() {
        Edges.term("UP again, a node has the FIRST block, then those of its RECORDS, in order, up to the first that is none: its length is 0", () -> {
            due("a record", upWith(third()), 4);
            byte[] none = third();
            none[1] = 0;
            due("a length of 0", upWith(none), 3);
            House h = new House(1).grow(0, 1, 5);
            h.poke(0, RECORD + 1, 0);
            h.down(0);
            due("up(0): what stands behind it does not count", h.up(0), 2);
            due("where the next would stand", h.told(0, 7), RECORD);
            h.poke(0, 1, 0);
            h.down(0);
            due("up(0): the FIRST one alone", h.up(0), 1);
            int[] told = {1, 1, 0, 0, 1, 0, 0, 0, NO};
            for (int w = 0; w < told.length; w++) due("told(0, " + w + ")", h.told(0, w), told[w]);
            due("at(0, 0)", h.at(0, 0), 0);
            due("at(0, 1)", h.at(0, 1), Edges.BAD);
            due("block(0, 0, 6)", h.block(0, 0, 6), 1);
            due("unspent(0, 0, 0)", h.unspent(0, 0, 0), Plain.coin(0));
            due("due(0, 1)", h.due(0, 1), 1000);
        });
        Edges.term("its last 4 bytes are others", () -> {
            for (int i = 1; i <= 4; i++) {
                byte[] other = third();
                other[RECORD - i] ^= 1;
                due("byte " + i + " from the end", upWith(other), 3);
            }
            due("of another place", upWith(Plain.record(0, Plain.block(3))), 3);
            due("of a place 256 further", upWith(Plain.record(2 * RECORD + 256, Plain.block(3))), 3);
            byte[] longer = third();
            longer[1]++;
            due("a byte too long", upWith(longer), 3);
            byte[] shorter = third();
            shorter[1]--;
            due("a byte too short", upWith(shorter), 3);
        });
        Edges.term("What is STORED next is written there.", () -> {
            House h = new House(1).grow(0, 1, 3);
            h.poke(0, RECORD + 50, h.peek(0, RECORD + 50) ^ 1);
            h.down(0);
            due("up(0)", h.up(0), 2);
            byte[] block = Plain.fork(Plain.block(1), 2, 3000, 5);
            due("another block 2", h.give(0, block), 0);
            h.diskIs("it stands there", 0, RECORD, Plain.record(RECORD, block));
            due("the length behind it is 0", h.peek(0, 2 * RECORD) + h.peek(0, 2 * RECORD + 1), 0);
            h.down(0);
            due("up(0)", h.up(0), 3);
        });
    }

    private static void notRead(String what, byte[] block) {
        due(what, upWith(Plain.record(2 * RECORD, block)), 3);
    }

    private static void readingJudged() {
        Edges.term("or the block is not judged right by 1 .. 14 behind those before (KNOWN, ORPHAN, too).", () -> {
            notRead("1 FORM", Arrays.copyOf(Plain.block(3), 104));
            notRead("1 FORM, one byte", new byte[1]);
            notRead("2 KNOWN", Plain.block(2));
            notRead("2 KNOWN, the FIRST one", Plain.block(0));
            byte[] lazy = Plain.block(3).clone();
            do lazy[79]++; while (Model.meets(Lab.hashOf(lazy), Lab.EASIEST));
            notRead("3 WORK", lazy);
            byte[] other = Plain.block(3).clone();
            other[102] ^= 1;
            notRead("4 ROOT", other);
            notRead("5 REWARD", Plain.behind(2, Lab.reward(3, 1, 1), Lab.reward(3, 1, 1)));
            notRead("6 ORPHAN", Plain.block(4));
        });
        Edges.term("or the block is not judged right by 1 .. 14 behind those before (KNOWN, ORPHAN, too).", () -> {
            notRead("7 DUE", Lab.craft(Plain.hash(2), Plain.time(3), 0x200FFFFE, Lab.reward(3, 1, 1)));
            notRead("8 TIME", Lab.craft(Plain.hash(2), Plain.time(1), Lab.EASIEST, Lab.reward(3, 1, 1)));
            notRead("9 HEIGHT", Plain.behind(2, Lab.reward(4, 1, 1)));
            notRead("10 INPUT", Plain.behind(2, Lab.reward(3, 1, 1), Plain.draw(0, 1, 1)));
            notRead("14 PAY", Plain.behind(2, Lab.reward(3, 4097, 1)));
        });
        Edges.term("or the block is not judged right by 1 .. 14 behind those before (KNOWN, ORPHAN, too).", () -> {
            byte[][] txs = {Plain.draw(0, 1, 1), Lab.tx(Lab.ins(Plain.coin(0), 0, 1), 1, 1), Plain.draw(0, 4097, 1)};
            String[] names = {"right", "11 SIGNATURE", "12 AMOUNT"};
            for (int i = 0; i < 3; i++) {
                House h = new House(1).grow(0, 1, 3);
                h.pokeAll(0, 3 * RECORD, Plain.record(3 * RECORD, Plain.behind(3, Lab.reward(4, 1, 1), txs[i])));
                h.down(0);
                due(names[i], h.up(0), i == 0 ? 5 : 4);
            }
        });
    }

    private static void readingEnds() {
        Edges.term("or goes beyond the disk", () -> {
            // A record that ends with the disk is one, though it has no 2 bytes behind it.
            House h = new House(1).grow(0, 1, 110);
            byte[] a = Plain.behind(110, Lab.reward(111, 1, 1, 1, 1, 1, 1));
            due("block 111", h.give(0, a), 0);
            byte[] b = Lab.craft(Lab.hashOf(a), Plain.time(112), Lab.EASIEST, Lab.reward(112, 1, 1, 1, 1, 1, 1, 1, 1));
            h.pokeAll(0, DISK - 157, Plain.record(DISK - 157, b));
            h.down(0);
            due("up(0)", h.up(0), 113);
            due("where the next would stand", h.told(0, 7), DISK);
        });
        Edges.term("or goes beyond the disk", () -> {
            // One that ends a byte before it leaves no room for a length.
            House h = new House(1);
            byte[] last = Plain.fork(upTo12178(h), 109, Plain.time(109), 1);
            h.pokeAll(0, 12178, Plain.record(12178, last));
            h.poke(0, DISK - 1, 1);
            h.down(0);
            due("up(0)", h.up(0), 110);
            due("where the next would stand", h.told(0, 7), DISK - 1);
        });
        Edges.term("or goes beyond the disk", () -> {
            House h = new House(1);
            upTo12177(h);
            // 105 bytes make it end with the disk, 106 go beyond.
            for (int length : new int[] {105, 106, 107, 255, 65535}) {
                h.poke(0, 12177, length >> 8);
                h.poke(0, 12178, length);
                h.down(0);
                due("up(0) with a length of " + length, h.up(0), 111);
                due("where the next would stand", h.told(0, 7), 12177);
            }
            h.poke(0, 0, 255);
            h.poke(0, 1, 255);
            h.down(0);
            due("up(0) with the greatest length at 0", h.up(0), 1);
        });
    }

    private static void upAgain() {
        Edges.term("POOL, LOST ones, what it asked are empty; there is no FUSE.", () -> {
            House h = new House(1).grow(0, 1, 4);
            due("into the POOL", h.drawCoin(0, 1, 1).give(0, 6), 0);
            due("an ORPHAN", h.give(0, Plain.block(6)), 6);
            h.fuse(0, 1000);
            h.down(0);
            due("up(0)", h.up(0), 5);
            for (int w : new int[] {5, 6}) due("told(0, " + w + ")", h.told(0, w), 0);
            due("told(0, 8)", h.told(0, 8), NO);
            due("pooled(0, 0, 2)", h.pooled(0, 0, 2), 0);
            due("the ORPHAN is none any more", h.give(0, Plain.block(5)), 0);
            due("blocks STORED", h.told(0, 1), 6);
        });
        Edges.term("POOL, LOST ones, what it asked are empty; there is no FUSE.", () -> {
            House h = new House(1).grow(0, 1, 4);
            due("an ORPHAN", h.give(0, Plain.block(6)), 6);
            h.down(0);
            due("up(0)", h.up(0), 5);
            due("the ORPHAN comes again", h.give(0, Plain.block(6)), 6);
            due("told(0, 6)", h.told(0, 6), 1);
            due("it was none before, so that nobody is asked again", h.house(4), 2);
            due("into the POOL", h.drawCoin(0, 1, 1).give(0, 6), 0);
            h.down(0);
            due("up(0)", h.up(0), 5);
            due("it may come to the POOL again", h.drawCoin(0, 1, 1).give(0, 6), 0);
        });
        Edges.term("POOL, LOST ones, what it asked are empty; there is no FUSE.", () -> {
            // What was on the chain and is not read again comes to no POOL.
            House h = new House(1).grow(0, 1, 4);
            due("block 5", h.give(0, Plain.behind(4, Lab.reward(5, 1, 1), Plain.draw(0, 1, 1))), 0);
            h.poke(0, 4 * RECORD + 1, 0);
            h.poke(0, 4 * RECORD, 0);
            h.down(0);
            due("up(0)", h.up(0), 5);
            due("in the POOL", h.told(0, 5), 0);
            due("the coin is there again", h.find(0, Plain.coin(0), 0), 0);
        });
    }

    public static void main(String[] args) {
        all();
        Edges.run();
    }
}
