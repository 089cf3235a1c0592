import java.util.Arrays;

/** Promises 27 to 31 and the disk of part 3: power, fuses, records. */
public final class DisksTest {
    private static void due(String what, long got, long want) {
        Lab.due(what, got, want);
    }

    private static byte[] disk(ChainHouse x, int node, int from, int to) {
        byte[] all = new byte[to - from];
        for (int i = from; i < to; i++) all[i - from] = (byte) x.peek(node, i);
        return all;
    }

    private static void pokeAll(ChainHouse x, int node, int from, byte[] bytes) {
        for (int i = 0; i < bytes.length; i++) x.poke(node, from + i, bytes[i]);
    }

    private static void power() {
        Lab lab = new Lab(2);
        ChainHouse x = lab.x;
        for (int node : new int[] {-1, 2, Integer.MIN_VALUE}) {
            due("27: no such node", x.down(node), ChainHouse.BAD);
            due("28: no such node", x.up(node), ChainHouse.BAD);
            due("29: no such node", x.fuse(node, 1), ChainHouse.BAD);
            due("30: no such node", x.peek(node, 0), ChainHouse.BAD);
            due("31: no such node", x.poke(node, 0, 1), ChainHouse.BAD);
        }
        due("28: it is up", x.up(0), ChainHouse.NO);
        lab.mine(0, 0, 6);
        byte[] orphan = Lab.craft(new byte[32], 1, Lab.EASIEST, Lab.reward(1, 1, 1));
        lab.give(0, orphan);
        due("19: into the pool", lab.giveTx(0, Lab.tx(Lab.ins(x.unspent(0, 0, 0), 0, 0), 1, 1)), 0);
        x.fuse(0, 500);
        due("32: pool", x.told(0, 5), 1);
        due("32: orphans", x.told(0, 6), 1);
        due("27: down", x.down(0), 7);
        due("27: it is down", x.down(0), ChainHouse.IS_DOWN);
        due("29: it is down", x.fuse(0, 1), ChainHouse.IS_DOWN);
        due("32: down", x.told(0, 0), 0);
        due("32: down, with a fuse", x.told(0, 8), ChainHouse.NO);
        due("30: a disk can be seen", x.peek(0, 1), 103);
        due("27: the other one", x.down(1), 1);
        due("28: up", x.up(0), 7);
        int[] told = {1, 7, 6, 6, 7, 0, 0, 654, ChainHouse.NO, 0, 0};
        for (int w = 0; w < told.length; w++) due("32: told " + w, x.told(0, w), told[w]);
        due("28: up", x.up(1), 1);
        due("28: up again", x.up(1), ChainHouse.NO);
    }

    private static void records() {
        Lab lab = new Lab(1);
        ChainHouse x = lab.x;
        for (int i = 0; i < 12288; i++) if (x.peek(0, i) != 0) due("30: at first 0", x.peek(0, i), 0);
        byte[] one = lab.solved(0, 1, 1001);
        x.give(0, 5);
        byte[] two = Lab.craft(Lab.hashOf(one), 1002, Lab.EASIEST, Lab.reward(2, 1, 1, 2, 2, 3, 3));
        lab.give(0, two);
        byte[] fork = Lab.craft(Lab.hashOf(one), 1003, Lab.EASIEST, Lab.reward(2, 1, 1));
        lab.give(0, fork);
        byte[] want = Model.join(Plain.record(0, one), Plain.record(109, two));
        want = Model.join(want, Plain.record(want.length, fork), new byte[20]);
        due("30: records", Arrays.equals(disk(x, 0, 0, want.length), want) ? 1 : 0, 1);
        due("32: the next", x.told(0, 7), want.length - 20);
        for (int i : new int[] {-1, 12288, Integer.MAX_VALUE}) {
            due("30: no byte", x.peek(0, i), ChainHouse.BAD);
            due("31: no byte", x.poke(0, i, 1), ChainHouse.BAD);
        }
        due("31: poke", x.poke(0, 12287, 0x1FF), 0);
        due("31: what it was", x.poke(0, 12287, -2), 255);
        due("30: the lowest 8 bits", x.peek(0, 12287), 254);
        x.down(0);
        due("28: up", x.up(0), 4);
        due("14: the fork", Arrays.equals(lab.block(0, 3), fork) ? 1 : 0, 1);
        due("32: the tip is the one stored first", x.told(0, 2), 2);
        due("37: unspent", x.told(0, 4), 5);
    }

    /** A fuse of every length below a record's, at every byte of it. */
    private static void fuses() {
        Lab lab = new Lab(1);
        ChainHouse x = lab.x;
        byte[] one = lab.solved(0, 1, 1001);
        byte[] want = Plain.record(0, one);
        for (int n = 0; n < 109; n++) {
            x = new ChainHouse(1);
            for (int i = 0; i < 200; i++) x.poke(0, i, 0x77);
            due("29: fuse", x.fuse(0, n), 0);
            due("32: its fuse", x.told(0, 8), n);
            Lab here = new Lab(x);
            due("19: the fuse ends", here.give(0, one), ChainHouse.IS_DOWN);
            due("19: the tape is empty", x.house(5), 0);
            due("32: it is down", x.told(0, 0), 0);
            byte[] disk = new byte[200];
            Arrays.fill(disk, (byte) 0x77);
            disk[0] = disk[1] = disk[109] = disk[110] = 0;
            System.arraycopy(want, 109 - n, disk, 109 - n, n);
            due("30: what was written by " + n, Arrays.equals(disk(x, 0, 0, 200), disk) ? 1 : 0, 1);
            // The highest byte of the length is 0 anyway.
            due("28: up", x.up(0), n == 108 ? 2 : 1);
            due("32: there is no fuse", x.told(0, 8), ChainHouse.NO);
            due("19: it can be given then", here.give(0, one), n == 108 ? 2 : 0);
        }
        x = new ChainHouse(1);
        x.fuse(0, 109);
        due("19: just enough", new Lab(x).give(0, one), 0);
        due("32: nothing is left", x.told(0, 8), 0);
        due("29: below 0 is none", x.fuse(0, -7), 0);
        due("32: none", x.told(0, 8), ChainHouse.NO);
        x.fuse(0, Integer.MAX_VALUE);
        due("32: the greatest", x.told(0, 8), Integer.MAX_VALUE);
    }

    /** The fuse ends with an orphan, behind the block that was given. */
    private static void fuseWithOrphan() {
        Lab lab = new Lab(2);
        ChainHouse x = lab.x;
        x.link(0, 1, 1);
        byte[] one = lab.solved(0, 1, 1001);
        byte[] two = Lab.craft(Lab.hashOf(one), 1002, Lab.EASIEST, Lab.reward(2, 1, 1));
        byte[] three = Lab.craft(Lab.hashOf(two), 1003, Lab.EASIEST, Lab.reward(3, 1, 1));
        lab.give(0, two);
        lab.give(0, three);
        x.fuse(0, 109 + 50);
        due("19: the fuse ends with the second", lab.give(0, one), ChainHouse.IS_DOWN);
        due("33: the first was told", x.house(2), 1);
        due("32: it is down", x.told(0, 0), 0);
        due("28: up", x.up(0), 2);
        due("32: no orphans", x.told(0, 6), 0);
    }

    /** The fuse ends in a tick: that message ends, the others go on, but to a node that is down. */
    private static void fuseInTick() {
        Lab lab = new Lab(3);
        ChainHouse x = lab.x;
        x.link(0, 1, 1);
        x.link(0, 2, 1);
        byte[] one = lab.solved(0, 1, 1001);
        x.fuse(1, 5);
        lab.post(0, 1, 5, one);
        lab.post(0, 2, 5, one);
        lab.post(0, 1, 5, one);
        due("22: two are received", x.tick(1), 2);
        due("33: one is gone", x.house(4), 1);
        due("32: down", x.told(1, 0), 0);
        due("32: it was received", x.told(1, 9), 1);
        due("32: not refused", x.told(1, 10), 0);
        due("32: stored by the other", x.told(2, 1), 2);
        due("33: nothing is told", x.house(2), 0);
        due("28: up", x.up(1), 1);
        due("32: counted still", x.told(1, 9), 1);
    }

    /** What ends the reading of records. */
    private static void broken() {
        Lab lab = new Lab(1);
        ChainHouse x = lab.x;
        lab.mine(0, 0, 5);
        byte[] whole = disk(x, 0, 0, 545);
        int[] places = {0, 1, 2, 60, 104, 105, 108};
        for (int k = 0; k < 5; k++) {
            for (int p : places) {
                x.poke(0, 109 * k + p, x.peek(0, 109 * k + p) ^ 64);
                due("31: what a node has stays", x.told(0, 1), 6);
                x.down(0);
                due("28: up, broken in " + k + " at " + p, x.up(0), k + 1);
                due("32: the next stands there", x.told(0, 7), 109 * k);
                due("32: the tip", x.told(0, 3), k);
                due("32: unspent", x.told(0, 4), k + 1);
                pokeAll(x, 0, 0, whole);
                x.down(0);
                due("28: whole again", x.up(0), 6);
            }
        }
        pokeAll(x, 0, 545, Plain.record(545, lab.block(0, 2)));
        x.down(0);
        due("28: one that is known", x.up(0), 6);
        pokeAll(x, 0, 545, Plain.record(545, Lab.craft(new byte[32], 5000, Lab.EASIEST, Lab.reward(6, 1, 1))));
        x.down(0);
        due("28: an orphan", x.up(0), 6);
        pokeAll(x, 0, 545, Plain.record(545, Lab.craft(lab.tipHash(0), 5000, Lab.EASIEST, Lab.reward(6, 4097, 1))));
        x.down(0);
        due("28: not right", x.up(0), 6);
        byte[] right = Lab.craft(lab.tipHash(0), 5000, Lab.EASIEST, Lab.reward(6, 4096, 1));
        pokeAll(x, 0, 545, Plain.record(109, right));
        x.down(0);
        due("28: of another place", x.up(0), 6);
        pokeAll(x, 0, 545, Plain.record(545, right));
        x.down(0);
        due("28: right", x.up(0), 7);
        due("14: it is block 6", Arrays.equals(lab.block(0, 6), right) ? 1 : 0, 1);
        due("32: the next", x.told(0, 7), 654);
        due("33: nothing is told", x.house(2), 0);
        x.poke(0, 654, 255);
        x.poke(0, 655, 255);
        x.down(0);
        due("28: a length beyond the disk", x.up(0), 7);
    }

    /** What is written anew stands where the broken record stood, and ends what is behind it. */
    private static void overwritten() {
        Lab lab = new Lab(1);
        ChainHouse x = lab.x;
        lab.mine(0, 0, 4);
        x.poke(0, 109 + 30, 1);
        x.poke(0, 109 + 31, 2);
        x.down(0);
        due("28: up", x.up(0), 2);
        byte[] block = lab.solved(0, 5, 1500);
        due("19: another second one", x.give(0, 5), 0);
        due("30: it stands there", Arrays.equals(disk(x, 0, 109, 218), Plain.record(109, block)) ? 1 : 0, 1);
        due("30: the length behind it is 0", x.peek(0, 218) + x.peek(0, 219), 0);
        due("30: the rest stays", x.peek(0, 220) == 0 && x.peek(0, 221) == 0 && x.peek(0, 222) == 0 ? 1 : 0, 0);
        x.down(0);
        due("28: up", x.up(0), 3);
    }

    /** A record that just ends with the disk is read, though none is written there. */
    private static void lastBytes() {
        Lab lab = new Lab(1);
        ChainHouse x = lab.x;
        for (int i = 0; i < 110; i++) {
            lab.solved(0, 1, x.block(0, i, 2) + 12);
            x.give(0, 5);
        }
        byte[] a = Lab.craft(lab.tipHash(0), x.due(0, 1) + 1, x.due(0, 0), Lab.reward(111, 1, 1, 1, 1, 1, 1));
        due("19: 141 bytes", lab.give(0, a), 0);
        due("32: 157 bytes are left", x.told(0, 7), 12131);
        byte[] b = Lab.craft(Lab.hashOf(a), x.due(0, 1) + 1, x.due(0, 0), Lab.reward(112, 1, 1, 1, 1, 1, 1, 1, 1));
        due("18: no room with 2 bytes behind", lab.judge(0, b), 15);
        pokeAll(x, 0, 12131, Plain.record(12131, b));
        x.down(0);
        due("28: it is a record", x.up(0), 113);
        due("32: the next", x.told(0, 7), 12288);
        due("18: no room", lab.judge(0, Lab.craft(Lab.hashOf(b), x.due(0, 1) + 1, x.due(0, 0), Lab.reward(113, 1, 1))), 15);
        x.poke(0, 12287, x.peek(0, 12287) + 1);
        x.down(0);
        due("28: up", x.up(0), 112);
    }

    public static void main(String[] args) {
        power();
        records();
        fuses();
        fuseWithOrphan();
        fuseInTick();
        broken();
        overwritten();
        lastBytes();
        Lab.end();
    }
}
