import java.nio.ByteBuffer;
import java.util.Arrays;

/** Promises 14 to 17: blocks on the tape. */
public final class TapeBlocksTest {
    private static void due(String what, long got, long want) {
        Lab.due(what, got, want);
    }

    private static void dueBytes(String what, byte[] got, byte[] want) {
        Lab.due(what, Arrays.equals(got, want) ? 1 : 0, 1);
    }

    private static void take() {
        Lab lab = new Lab(2);
        ChainHouse x = lab.x;
        due("14: the first", x.take(1, 0), 103);
        dueBytes("14: its bytes", lab.tape(), Model.firstBlock().raw);
        byte[] one = lab.solved(0, 1, 1001);
        x.give(0, 5);
        lab.load(new byte[500]);
        due("14: the second", x.take(0, 1), 103);
        dueBytes("14: its bytes", lab.tape(), one);
        due("14: no such block", x.take(0, 2), ChainHouse.BAD);
        due("14: no such block", x.take(0, -1), ChainHouse.BAD);
        due("14: no such block there", x.take(1, 1), ChainHouse.BAD);
        due("14: no such node", x.take(2, 0), ChainHouse.BAD);
        due("14: no such node", x.take(-1, 0), ChainHouse.BAD);
        dueBytes("14: BAD changes nothing", lab.tape(), one);
        x.down(0);
        due("14: down", x.take(0, 0), ChainHouse.IS_DOWN);
        due("14: down, blocks are not looked at", x.take(0, 77), ChainHouse.IS_DOWN);
        dueBytes("14: IS_DOWN changes nothing", lab.tape(), one);
    }

    private static void assemble() {
        Lab lab = new Lab(2);
        ChainHouse x = lab.x;
        due("15: time is the middle one", x.assemble(0, 5, 1000), ChainHouse.BAD);
        due("15: time is below 0", x.assemble(0, 5, -1), ChainHouse.BAD);
        due("15: no such node", x.assemble(2, 5, 2000), ChainHouse.BAD);
        due("15: no such node", x.assemble(-1, 5, 2000), ChainHouse.BAD);
        due("15: BAD changes nothing", x.house(5), 0);
        due("15: assemble", x.assemble(0, 5, Integer.MAX_VALUE), 103);
        byte[] reward = Lab.reward(1, 4096, 5);
        byte[] want = Model.join(Lab.hashOf(Model.firstBlock().raw), Model.hh(reward), Model.bytes(Integer.MAX_VALUE),
            Model.bytes(Lab.EASIEST), new byte[8], new byte[] {1}, reward);
        dueBytes("15: the bytes", lab.tape(), want);
        due("15: nothing else is done", x.told(0, 1), 1);
        x.down(1);
        due("15: down, times are not looked at", x.assemble(1, 5, 0), ChainHouse.IS_DOWN);
    }

    /** Ten in the pool with fees that repeat: the seven greatest are chosen, equal ones in their order. */
    private static void chooses() {
        Lab lab = new Lab(1);
        ChainHouse x = lab.x;
        lab.mine(0, 0, 14);
        int[] fees = {5, 9, 5, 0, 9, 7, 5, 1, 5, 12};
        byte[][] txs = new byte[10][];
        for (int i = 0; i < 10; i++) {
            txs[i] = Lab.tx(Lab.ins(x.unspent(0, i, 0), 0, 0), 4096 - fees[i], i);
            due("15: into the pool", lab.giveTx(0, txs[i]), 0);
        }
        int time = x.due(0, 1) + 1;
        byte[] reward = Lab.reward(15, 4096 + 12 + 9 + 9 + 7 + 5 + 5 + 5, 33);
        byte[][] body = {reward, txs[9], txs[1], txs[4], txs[5], txs[0], txs[2], txs[6]};
        byte[] want = Model.join(lab.tipHash(0), new byte[32], Model.bytes(time), Model.bytes(Lab.EASIEST), new byte[8],
            new byte[] {8}, Model.join(body));
        Lab.root(want, body);
        due("15: assemble", x.assemble(0, 33, time), want.length);
        dueBytes("15: the bytes", lab.tape(), want);
        lab.solved(0, 33, time);
        due("15: it is right", x.give(0, 5), 0);
        due("15: three are left", x.told(0, 5), 3);
        due("15: in their order", x.pooled(0, 0, 1), 0);
        due("15: in their order", x.pooled(0, 1, 1), 1);
        due("15: in their order", x.pooled(0, 2, 1), 5);
        due("15: the reward", x.balance(0, 33), 4096 + 52);
    }

    private static void root() {
        Lab lab = new Lab(1);
        ChainHouse x = lab.x;
        due("16: an empty tape", x.root(), ChainHouse.NO);
        byte[] before = new byte[32];
        for (int n = 1; n <= 8; n++) {
            byte[][] txs = new byte[n][];
            for (int i = 0; i < n; i++) txs[i] = i % 3 == 1 ? Lab.tx(Lab.ins(i, 1, 2), 5, 6) : Lab.reward(i, i, 1, 7, 8);
            byte[] want = Lab.craft(before, 5, Lab.EASIEST, Lab.reward(1, 1, 1));
            want = Lab.root(Model.join(Arrays.copyOf(want, 80), new byte[] {(byte) n}, Model.join(txs)), txs);
            lab.load(want);
            due("16: it is so already, of " + n, x.root(), 0);
            dueBytes("16: nothing changes", lab.tape(), want);
            for (int at : new int[] {32, 63}) {
                lab.load(want);
                x.turn(at, 16);
                due("16: it was another one, of " + n, x.root(), 1);
                dueBytes("16: it is the right one", lab.tape(), want);
            }
        }
        byte[] right = Model.firstBlock().raw;
        byte[][] odd = {Lab.with(right, 64, 128), Lab.with(right, 80, 0), Lab.with(right, 80, 2), Lab.with(right, 80, 9),
            Lab.with(right, 81, 5), Lab.with(right, 81, 1), Lab.with(right, 82, 0), Lab.with(right, 82, 5), Lab.with(right, 83, 128),
            Arrays.copyOf(right, 102), Arrays.copyOf(right, 104), Arrays.copyOf(right, 80)};
        for (int i = 0; i < odd.length; i++) {
            lab.load(odd[i]);
            due("16: no block, " + i, x.root(), ChainHouse.NO);
            dueBytes("16: NO changes nothing", lab.tape(), odd[i]);
        }
    }

    private static void solve() {
        Lab lab = new Lab(1);
        ChainHouse x = lab.x;
        byte[] head = new byte[80];
        ByteBuffer.wrap(head).putInt(68, Lab.EASIEST);
        due("17: an empty tape", x.solve(0, 1), ChainHouse.BAD);
        due("17: 79 bytes", lab.load(Arrays.copyOf(head, 79)).x.solve(0, 1), ChainHouse.BAD);
        lab.load(head);
        due("17: n of 0", x.solve(0, 0), ChainHouse.BAD);
        due("17: n of 2001", x.solve(0, 2001), ChainHouse.BAD);
        due("17: n below 0", x.solve(0, -1), ChainHouse.BAD);
        due("17: BAD takes no tries", x.house(8), 200000);
        int[] wrong = {0x2010FFFF, 0x20100000, 0x200FFFFF + (1 << 24), 0x03008000, 0x04007FFF, 0x04800000, 0x1F800000, 0, -1, 0x20007FFF};
        for (int bits : wrong) {
            lab.load(head);
            ByteBuffer b = ByteBuffer.allocate(80).put(head);
            due("17: bits " + bits, lab.load(b.putInt(68, bits).array()).x.solve(0, 5), ChainHouse.BAD);
        }
        int[] right = {0x04008000, 0x047FFFFF, 0x1F7FFFFF, 0x20008000};
        for (int bits : right) {
            ByteBuffer b = ByteBuffer.allocate(80).put(head);
            int got = lab.load(b.putInt(68, bits).array()).x.solve(0, 1);
            due("17: bits " + bits, got == 1 || got == ChainHouse.NO ? 1 : 0, 1);
        }
        due("17: a try each", x.house(8), 200000 - 4);
        solveFrom(lab, head, -3, 200000 - 4);
        solveFrom(lab, head, 0, x.house(8));
        solveFrom(lab, Model.join(head, new byte[7]), Long.MAX_VALUE - 1, x.house(8));
    }

    private static void solveFrom(Lab lab, byte[] head, long from, int left) {
        byte[] want = head.clone();
        int need = 0;
        do {
            ByteBuffer.wrap(want).putLong(72, from + need);
            need++;
        } while (!Model.meets(Lab.hashOf(want), Lab.EASIEST));
        lab.load(head);
        if (need > 1) {
            due("17: not with so few", lab.x.solve(from, need - 1), ChainHouse.NO);
            byte[] last = head.clone();
            ByteBuffer.wrap(last).putLong(72, from + need - 2);
            dueBytes("17: the nonce is the last one", lab.tape(), last);
        }
        due("17: solve", lab.x.solve(from, need), need);
        dueBytes("17: the nonce", lab.tape(), want);
        due("17: tries are counted", lab.x.house(8), left - (need - 1) - need);
        due("17: solve with more", lab.x.solve(from, 2000), need);
        due("17: only those taken are counted", lab.x.house(8), left - (need - 1) - 2 * need);
    }

    /** With the hardest bits no try meets, so that all are used up. */
    private static void triesEnd() {
        Lab lab = new Lab(1);
        byte[] head = new byte[80];
        ByteBuffer.wrap(head).putInt(68, 0x04008000);
        lab.load(head);
        for (int i = 0; i < 99; i++) due("17: solve", lab.x.solve(i * 2000L, 2000), ChainHouse.NO);
        due("17: solve", lab.x.solve(0, 1999), ChainHouse.NO);
        due("17: tries left", lab.x.house(8), 1);
        due("17: not so many left", lab.x.solve(0, 2), ChainHouse.FULL);
        due("17: BAD comes before FULL", lab.x.solve(0, 2001), ChainHouse.BAD);
        due("17: FULL takes none", lab.x.house(8), 1);
        due("17: just so many", lab.x.solve(0, 1), ChainHouse.NO);
        due("17: none left", lab.x.solve(0, 1), ChainHouse.FULL);
        due("17: none left", lab.x.house(8), 0);
    }

    public static void main(String[] args) {
        take();
        assemble();
        chooses();
        root();
        solve();
        triesEnd();
        Lab.end();
    }
}
