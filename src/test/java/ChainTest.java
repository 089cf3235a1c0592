import java.util.Arrays;

/** Parts 2 and 3: bits that are due, times, subsidies, tips, the pool made anew, orphans, a full disk. */
public final class ChainTest {
    private static void due(String what, long got, long want) {
        Lab.due(what, got, want);
    }

    /** Blocks with a time each, a fixed step behind the one before. */
    private static void chain(Lab lab, int many, int step) {
        ChainHouse x = lab.x;
        for (int i = 0; i < many; i++) {
            int last = x.block(0, x.told(0, 2), 2);
            lab.solved(0, 1, last + step);
            due("19: a block of the chain", x.give(0, 5), 0);
        }
    }

    private static void bits() {
        Lab lab = new Lab(1);
        ChainHouse x = lab.x;
        chain(lab, 14, 1);
        due("41: those of the tip", x.due(0, 0), 0x200FFFFF);
        chain(lab, 1, 1);
        due("41: 15 seconds count as 40", x.due(0, 0), 0x2003FFFF);
        byte[] easy = Lab.craft(lab.tipHash(0), 1016, Lab.EASIEST, Lab.reward(16, 1, 1));
        due("18: the old bits", lab.judge(0, easy), 7);
        chain(lab, 16, 12);
        due("34: bits of 16", x.block(0, 16, 3), 0x2003FFFF);
        due("41: from 16 to 31 there are 15 steps", x.due(0, 0), 0x20047FFE);
        chain(lab, 16, 1000);
        due("41: at most four times that", x.due(0, 0), 0x200FFFFF);
        due("35: the work of 47", x.limb(0, 47, 7) - x.limb(0, 46, 7), 56);
        due("35: the total", x.limb(0, 47, 7), 16 * 16 + 16 * 64 + 16 * 56);
        due("35: a target", x.limb(0, 20, 8), 0x03FFFF0000000000L);
        due("35: a target", x.limb(0, 40, 8), 0x047FFE0000000000L);
        for (int k = 9; k < 12; k++) due("35: a target", x.limb(0, 40, k), 0);
    }

    private static void slowBits() {
        Lab lab = new Lab(1);
        chain(lab, 15, 1);
        chain(lab, 16, 1000);
        due("41: 15000 seconds count as 640", lab.x.due(0, 0), 0x200FFFFC);
        Lab same = new Lab(1);
        chain(same, 15, 1);
        chain(same, 14, 10);
        same.solved(0, 1, same.x.due(0, 1) + 100 + 1);
        due("19: a block", same.x.give(0, 5), 0);
        int last = same.x.block(0, 16, 2) + 639;
        same.solved(0, 1, last);
        due("19: a block", same.x.give(0, 5), 0);
        due("41: 639 seconds", same.x.due(0, 0), Model.toBits(Model.target(0x2003FFFF).multiply(java.math.BigInteger.valueOf(639)).divide(java.math.BigInteger.valueOf(160))));
    }

    /** Three fast spans: the mantissa falls below what the highest exponent may have. */
    private static void hardBits() {
        Lab lab = new Lab(1);
        chain(lab, 31, 1);
        due("41: a quarter twice", lab.x.due(0, 0), 0x2000FFFF);
        chain(lab, 16, 1);
        due("41: a quarter three times", lab.x.due(0, 0), 0x1F3FFFC0);
        due("35: the total", lab.x.limb(0, 47, 7), 16 * 16 + 16 * 64 + 16 * 256);
    }

    private static void middle() {
        Lab lab = new Lab(1);
        ChainHouse x = lab.x;
        due("41: of one", x.due(0, 1), 1000);
        int[] times = {1100, 9000, 1101, 1102, 8000, 1200, 7000, 6000, 1300, 1400, 1500, 1450, 9500};
        int[] middle = {1100, 1100, 1101, 1101, 1102, 1102, 1200, 1200, 1300, 1300, 1400, 1450, 1450};
        for (int i = 0; i < times.length; i++) {
            due("15: the middle time", x.assemble(0, 1, x.due(0, 1)), ChainHouse.BAD);
            lab.solved(0, 1, times[i]);
            due("19: time " + times[i], x.give(0, 5), 0);
            due("41: middle behind " + (i + 2), x.due(0, 1), middle[i]);
        }
    }

    private static void subsidies() {
        Lab lab = new Lab(1);
        ChainHouse x = lab.x;
        chain(lab, 30, 10);
        due("41: behind 30", x.due(0, 2), 4096);
        chain(lab, 1, 10);
        due("41: behind 31", x.due(0, 2), 2048);
        byte[] tip = lab.tipHash(0);
        int time = x.due(0, 1) + 1;
        due("18: too much", lab.judge(0, Lab.craft(tip, time, x.due(0, 0), Lab.reward(32, 2049, 1))), 14);
        due("18: just it", lab.judge(0, Lab.craft(tip, time, x.due(0, 0), Lab.reward(32, 2048, 1))), 0);
        chain(lab, 33, 10);
        due("41: behind 64", x.due(0, 2), 1024);
        due("37: of height 64", x.unspent(0, 64, 2), 1024);
    }

    /** A block each way; the tip is the one that came first, till the other has more. */
    private static void tips() {
        Lab lab = new Lab(2);
        ChainHouse x = lab.x;
        byte[] a1 = lab.solved(0, 1, 1001);
        x.give(0, 5);
        byte[] b1 = lab.solved(1, 2, 1001);
        x.give(1, 5);
        byte[] b2 = lab.solved(1, 2, 1002);
        x.give(1, 5);
        due("19: an equal one", lab.give(0, b1), 0);
        due("32: the tip stays", x.told(0, 2), 1);
        due("34: it is not on the chain", x.block(0, 2, 6), 0);
        due("39: its reward is not there", x.balance(0, 2), 0);
        due("19: one more", lab.give(0, b2), 0);
        due("32: the tip", x.told(0, 2), 3);
        int[] on = {1, 0, 1, 1};
        for (int k = 0; k < 4; k++) due("34: on the chain", x.block(0, k, 6), on[k]);
        int[] before = {ChainHouse.NO, 0, 0, 2};
        for (int k = 0; k < 4; k++) due("34: the one before", x.block(0, k, 0), before[k]);
        due("36: at 1", x.at(0, 1), 2);
        due("36: at 2", x.at(0, 2), 3);
        due("39: rewards", x.balance(0, 2), 8192);
        due("39: rewards", x.balance(0, 1), 0);
        due("18: the old one is known", lab.judge(0, a1), 2);
        due("32: unspent", x.told(0, 4), 3);
    }

    /** Node 0 leaves its chain: its pool comes first, then what stood in the blocks it left. */
    private static void poolAnew() {
        Lab lab = new Lab(2);
        ChainHouse x = lab.x;
        lab.mine(0, 0, 8);
        for (int k = 1; k <= 8; k++) lab.give(1, lab.block(0, k));
        byte[][] t = new byte[6][];
        for (int i = 0; i < 6; i++) t[i] = Lab.tx(Lab.ins(x.unspent(0, i, 0), 0, 0), 4000 + i, 5);
        byte[] late = Lab.tx(Lab.ins(x.unspent(0, 6, 0), 0, 0), 4000, 5);
        byte[] tip = lab.tipHash(0);
        int time = x.due(0, 1) + 1;
        byte[] a9 = Lab.craft(tip, time, Lab.EASIEST, Lab.reward(9, 4096, 0), t[3], t[1]);
        due("19: block 9 of node 0", lab.give(0, a9), 0);
        byte[] chained = Lab.tx(Lab.ins(Lab.idOf(t[3]), 0, 5), 3000, 6);
        byte[] a10 = Lab.craft(Lab.hashOf(a9), time + 50, Lab.EASIEST, Lab.reward(10, 4096, 0), t[0], chained, late);
        due("19: block 10 of node 0", lab.give(0, a10), 0);
        due("19: into the pool", lab.giveTx(0, t[4]), 0);
        due("19: into the pool", lab.giveTx(0, t[2]), 0);
        due("19: into the pool", lab.giveTx(0, Lab.tx(Lab.ins(Lab.idOf(t[1]), 0, 5), 1, 6)), 0);
        byte[] b9 = Lab.craft(tip, time + 1, Lab.EASIEST, Lab.reward(9, 4096, 9), t[4]);
        byte[] b10 = Lab.craft(Lab.hashOf(b9), time + 100, Lab.EASIEST, Lab.reward(10, 4096, 9));
        byte[] other = Lab.tx(Lab.ins(x.unspent(1, 1, 0), 0, 0), 7, 7);
        byte[] b11 = Lab.craft(Lab.hashOf(b10), time + 101, Lab.EASIEST, Lab.reward(11, 4096, 9), other);
        due("19: block 9 of the other chain", lab.give(0, b9), 0);
        due("19: block 10 of the other chain", lab.give(0, b10), 0);
        due("32: the pool is as it was", x.told(0, 5), 3);
        due("19: block 11 of the other chain", lab.give(0, b11), 0);
        due("32: the tip", x.told(0, 3), 11);
        byte[][] want = {t[2], t[3], t[0], late};
        due("32: the pool", x.told(0, 5), want.length);
        for (int i = 0; i < want.length; i++) due("40: in the pool " + i, x.pooled(0, i, 0), Lab.idOf(want[i]));
        long[] fees = {94, 93, 96, 96};
        for (int i = 0; i < want.length; i++) due("40: its fee " + i, x.pooled(0, i, 1), fees[i]);
    }

    private static void poolRoom() {
        Lab lab = new Lab(1);
        ChainHouse x = lab.x;
        lab.mine(0, 0, 4);
        long id = x.unspent(0, 0, 0), id1 = x.unspent(0, 1, 0);
        byte[] split = Lab.tx(Lab.ins(id, 0, 0), 1000, 0, 1000, 0, 1000, 0, 1000, 0);
        byte[] split1 = Lab.tx(Lab.ins(id1, 0, 0), 1000, 0, 1000, 0, 1000, 0, 1000, 0);
        lab.giveTx(0, split);
        lab.giveTx(0, split1);
        lab.mine(0, 0, 1);
        byte[][] more = new byte[4][];
        for (int i = 0; i < 4; i++) {
            more[i] = Lab.tx(Lab.ins(Lab.idOf(split), i, 0), 200, 0, 200, 0, 200, 0, 200, 0);
            due("19: into the pool", lab.giveTx(0, more[i]), 0);
        }
        lab.mine(0, 0, 1);
        for (int i = 0; i < 16; i++) {
            due("19: into the pool " + i, lab.giveTx(0, Lab.tx(Lab.ins(Lab.idOf(more[i / 4]), i % 4, 0), 100, i)), 0);
        }
        byte[] next = Lab.tx(Lab.ins(Lab.idOf(split1), 0, 0), 100, 0);
        due("18: no room", lab.judgeTx(0, next), 15);
        due("19: no room", lab.giveTx(0, next), 15);
        due("18: clash comes before room", lab.judgeTx(0, Lab.tx(Lab.ins(Lab.idOf(more[0]), 0, 0), 1, 1)), 16);
        due("18: known", lab.judgeTx(0, Lab.tx(Lab.ins(Lab.idOf(more[0]), 0, 0), 100, 0)), 2);
        due("32: sixteen", x.told(0, 5), 16);
        lab.mine(0, 0, 1);
        due("32: seven less", x.told(0, 5), 9);
        due("19: room again", lab.giveTx(0, next), 0);
    }

    /** Blocks that come from the last to the first, and forks of them. */
    private static void orphans() {
        Lab lab = new Lab(2);
        ChainHouse x = lab.x;
        x.link(0, 1, 1);
        byte[][] b = new byte[12][];
        byte[] before = Lab.hashOf(Model.firstBlock().raw);
        for (int h = 1; h < 12; h++) {
            b[h] = Lab.craft(before, 1000 + h, Lab.EASIEST, Lab.reward(h, 4096, h));
            before = Lab.hashOf(b[h]);
        }
        for (int h = 11; h >= 3; h--) {
            due("19: an orphan", lab.give(0, b[h]), 6);
            due("32: orphans", x.told(0, 6), Math.min(8, 12 - h));
        }
        due("19: it is one already", lab.give(0, b[5]), 6);
        due("33: what is sent to nobody is gone, once each", x.house(4), 9);
        due("32: orphans", x.told(0, 6), 8);
        due("33: nothing is told of them", x.house(2), 0);
        due("18: the oldest one went, but is an orphan", lab.judge(0, b[11]), 6);
        byte[] fork = Lab.craft(Lab.hashOf(b[2]), 2000, Lab.EASIEST, Lab.reward(3, 1, 1));
        due("19: one behind block 2, too", lab.give(0, fork), 6);
        due("32: block 10 went", x.told(0, 6), 8);
        due("19: block 2 is still lost", lab.give(0, b[2]), 6);
        due("32: block 9 went", x.told(0, 6), 8);
        due("19: the first that is not", lab.give(0, b[1]), 0);
        due("32: all are stored", x.told(0, 1), 10);
        due("32: none is lost", x.told(0, 6), 0);
        due("32: the tip", x.told(0, 3), 8);
        // b1, b2, then behind it the oldest first: b3 with all behind it, then the fork.
        byte[][] order = {b[1], b[2], b[3], b[4], b[5], b[6], b[7], b[8], fork};
        for (int k = 0; k < order.length; k++) {
            due("14: stored as " + (k + 1), Arrays.equals(lab.block(0, k + 1), order[k]) ? 1 : 0, 1);
            due("23: told of " + (k + 1), Arrays.equals(lab.message(k), Lab.hashOf(order[k])) ? 1 : 0, 1);
        }
        due("33: nine were told", x.house(2), 9);
        due("19: the next", lab.give(0, b[9]), 0);
    }

    private static byte[] behind(byte[] block, int time) {
        return Lab.craft(Lab.hashOf(block), time, Lab.EASIEST, Lab.reward(2, 1, 1));
    }

    /** Gives an orphan that is one already: nothing comes of it. */
    private static void giveAgain(String what, Lab lab, byte[] orphan) {
        int lost = lab.x.told(0, 6), gone = lab.x.house(4);
        due(what + ": 19: an orphan", lab.give(0, orphan), 6);
        due(what + ": 32: the lost ones stay as they are", lab.x.told(0, 6), lost);
        due(what + ": 33: nobody is asked", lab.x.house(4), gone);
    }

    /** Gives an orphan that is none yet: it becomes one, and the sender, which is nobody, is asked. */
    private static void giveNew(String what, Lab lab, byte[] orphan) {
        int lost = lab.x.told(0, 6), gone = lab.x.house(4);
        due(what + ": 19: an orphan", lab.give(0, orphan), 6);
        due(what + ": 32: it is one more, eight at most", lab.x.told(0, 6), Math.min(8, lost + 1));
        due(what + ": 33: an ask to nobody is gone", lab.x.house(4), gone + 1);
    }

    /** Which orphans are there, when the oldest goes, one in the middle is stored, the node goes down. */
    private static void orphansAgain() {
        Lab lab = new Lab(1);
        byte[] first = Model.firstBlock().raw;
        byte[] one = behind(first, 1001), other = Lab.craft(Lab.hashOf(first), 1001, Lab.EASIEST, Lab.reward(1, 7, 7));
        byte[][] b = new byte[9][];
        for (int i = 0; i < 9; i++) {
            b[i] = behind(i == 4 ? other : one, 1100 + i);
            giveNew("orphan " + i, lab, b[i]);
        }
        for (int i = 1; i < 9; i++) giveAgain("orphan " + i + " again", lab, b[i]);
        giveNew("the oldest went", lab, b[0]);
        giveNew("and then the next", lab, b[1]);
        due("19: what is before orphan 4", lab.give(0, other), 0);
        due("32: orphan 4 is none any more", lab.x.told(0, 6), 7);
        due("19: it is stored", lab.give(0, b[4]), 2);
        for (int i = 0; i < 9; i++) {
            if (i != 2 && i != 4) giveAgain("orphan " + i + " is still one", lab, b[i]);
        }
        giveNew("orphan 2 went before", lab, b[2]);
        lab.x.down(0);
        lab.x.up(0);
        due("32: no orphans", lab.x.told(0, 6), 0);
        giveNew("none is left", lab, b[2]);
    }

    /**
     * Nobody knows two headers of one hash: an orphan's bytes are changed where they are kept, so
     * that the block which comes has its hash and another header.
     */
    private static void orphansOfOneHash() {
        Lab lab = new Lab(2);
        ChainHouse x = lab.x;
        x.link(0, 1, 1);
        byte[] orphan = behind(behind(Model.firstBlock().raw, 1001), 1002);
        lab.post(1, 0, 5, orphan);
        x.tick(1);
        due("33: one is asked", x.house(2), 1);
        byte[] kept = Inside.lostBytes(x, 0);
        due("the first orphan stands first", Arrays.equals(Arrays.copyOf(kept, orphan.length), orphan) ? 1 : 0, 1);
        for (int i = 0; i < 80; i++) kept[i] ^= 1;
        giveAgain("another header, one hash", lab, orphan);
        while (x.house(2) > 0) x.lose(0);
        lab.post(1, 0, 5, orphan);
        due("22: received", x.tick(1), 1);
        due("32: it was an orphan before", x.told(0, 6), 1);
        due("33: nothing is asked", x.house(2), 0);
        System.arraycopy(orphan, 0, kept, 0, 80);
        giveNew("another hash", lab, behind(behind(Model.firstBlock().raw, 1001), 1003));
    }

    private static void wrongOrphan() {
        Lab lab = new Lab(1);
        byte[] first = Lab.hashOf(Model.firstBlock().raw);
        byte[] one = Lab.craft(first, 1001, Lab.EASIEST, Lab.reward(1, 4096, 1));
        byte[] bad = Lab.craft(Lab.hashOf(one), 1002, Lab.EASIEST, Lab.reward(2, 5000, 1));
        byte[] behind = Lab.craft(Lab.hashOf(bad), 1003, Lab.EASIEST, Lab.reward(3, 4096, 1));
        due("19: an orphan", lab.give(0, bad), 6);
        due("19: an orphan", lab.give(0, behind), 6);
        due("19: the one before", lab.give(0, one), 0);
        due("32: the wrong one is not stored", lab.x.told(0, 1), 2);
        due("32: what is behind it is an orphan still", lab.x.told(0, 6), 1);
    }

    /** Eight orphans behind one block are judged, the oldest first. */
    private static void brothers() {
        Lab lab = new Lab(1);
        byte[] one = Lab.craft(Lab.hashOf(Model.firstBlock().raw), 1001, Lab.EASIEST, Lab.reward(1, 4096, 1));
        byte[][] b = new byte[8][];
        for (int i = 0; i < 8; i++) {
            b[i] = Lab.craft(Lab.hashOf(one), 1002 + i, Lab.EASIEST, Lab.reward(2, 4096, i));
            due("19: an orphan", lab.give(0, b[i]), 6);
        }
        due("19: the one before", lab.give(0, one), 0);
        due("32: all are stored", lab.x.told(0, 1), 10);
        due("32: the tip is the first of them", lab.x.told(0, 2), 2);
        for (int i = 0; i < 8; i++) due("14: in their order", Arrays.equals(lab.block(0, i + 2), b[i]) ? 1 : 0, 1);
    }

    /** 112 of the smallest blocks are stored, the next one has no room. */
    private static void room() {
        Lab lab = new Lab(1);
        ChainHouse x = lab.x;
        chain(lab, 111, 12);
        due("32: where the next would stand", x.told(0, 7), 111 * 109);
        byte[] longer = Lab.craft(lab.tipHash(0), x.due(0, 1) + 1, x.due(0, 0), Lab.reward(112, 1, 1, 1, 1, 1, 1, 1, 1));
        due("18: room for 189 - 8", lab.judge(0, longer), 0);
        byte[] before = Lab.craft(lab.tipHash(0), x.due(0, 1) + 1, x.due(0, 0), Lab.reward(112, 1, 1));
        byte[] orphan = Lab.craft(Lab.hashOf(before), x.due(0, 1) + 99, x.due(0, 0), Lab.reward(113, 1, 1));
        due("19: an orphan", lab.give(0, orphan), 6);
        due("19: the one before", lab.give(0, before), 0);
        due("32: the orphan has no room, and is none any more", x.told(0, 6), 0);
        due("32: it is up", x.told(0, 0), 1);
        due("32: the next", x.told(0, 7), 112 * 109);
        byte[] last = lab.solved(0, 1, x.due(0, 1) + 1);
        due("18: no room", x.judge(0, 5), 15);
        due("19: no room", x.give(0, 5), 15);
        due("32: it is not stored", x.told(0, 1), 113);
        due("18: the reward comes before room", lab.judge(0, Lab.craft(lab.tipHash(0), x.due(0, 1) + 1, x.due(0, 0), Lab.reward(113, 9999, 1))), 14);
        due("27: down", x.down(0), 113);
        due("28: up", x.up(0), 113);
        due("18: no room", lab.judge(0, last), 15);
        due("32: unspent", x.told(0, 4), 113);
    }

    /** 104 of 109 bytes, and one of 950: it ends two bytes before the disk does. */
    private static void exactRoom() {
        Lab lab = new Lab(1);
        ChainHouse x = lab.x;
        for (int i = 0; i < 104; i++) {
            lab.solved(0, 0, x.block(0, i, 2) + 12);
            due("19: a block of the chain", x.give(0, 5), 0);
        }
        long[] four = {1, 1, 1, 1, 1, 1, 1, 1};
        byte[][] body = new byte[6][];
        body[0] = Lab.reward(105, 1, 1);
        body[1] = Lab.tx(Lab.ins(x.unspent(0, 0, 0), 0, 0, x.unspent(0, 1, 0), 0, 0, x.unspent(0, 2, 0), 0, 0), four);
        for (int i = 2; i < 6; i++) body[i] = Lab.tx(Lab.ins(x.unspent(0, i + 1, 0), 0, 0), four);
        byte[] block = Lab.craft(lab.tipHash(0), x.due(0, 1) + 1, x.due(0, 0), body);
        due("18: just room", lab.judge(0, block), 0);
        due("19: just room", lab.give(0, block), 0);
        due("32: the next", x.told(0, 7), 12286);
        due("30: its length", x.peek(0, 104 * 109) << 8 | x.peek(0, 104 * 109 + 1), 944);
        due("32: unspent", x.told(0, 4), 105 - 7 + 20 + 1);
        x.down(0);
        due("28: up", x.up(0), 106);
        due("14: it is the last", Arrays.equals(lab.block(0, 105), block) ? 1 : 0, 1);
        due("32: the next", x.told(0, 7), 12286);
    }

    /** A record may end two bytes before the disk does, not later. */
    private static void justRoom() {
        Lab lab = new Lab(1);
        ChainHouse x = lab.x;
        int[] outs = {1, 2, 3, 4};
        // 110 records of 109 bytes, then 296 bytes are left: one of 109 + 16 * k, and one more.
        chain(lab, 110, 12);
        due("32: the next", x.told(0, 7), 11990);
        byte[] b = Lab.craft(lab.tipHash(0), x.due(0, 1) + 1, x.due(0, 0), Lab.reward(111, pays(4)));
        due("19: 157 bytes", lab.give(0, b), 0);
        for (int n : outs) {
            byte[] c = Lab.craft(Lab.hashOf(b), x.due(0, 1) + 1, x.due(0, 0), Lab.reward(112, pays(n)));
            due("18: with " + n + " outputs", lab.judge(0, c), 12147 + 93 + 16 * n + 2 <= 12288 ? 0 : 15);
        }
        byte[] c = Lab.craft(Lab.hashOf(b), x.due(0, 1) + 1, x.due(0, 0), Lab.reward(112, pays(2)));
        due("19: the last", lab.give(0, c), 0);
        due("32: the next", x.told(0, 7), 12272);
        x.down(0);
        due("28: up", x.up(0), 113);
    }

    private static long[] pays(int n) {
        long[] outs = new long[2 * n];
        Arrays.fill(outs, 1);
        return outs;
    }

    public static void main(String[] args) {
        bits();
        slowBits();
        hardBits();
        middle();
        subsidies();
        tips();
        poolAnew();
        poolRoom();
        orphans();
        orphansAgain();
        orphansOfOneHash();
        wrongOrphan();
        brothers();
        room();
        exactRoom();
        justRoom();
        Lab.end();
    }
}
