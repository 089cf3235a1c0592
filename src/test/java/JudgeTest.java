import java.nio.ByteBuffer;
import java.util.Arrays;

/** Promises 18 and 19: by what blocks and transactions are judged, and in which order. */
public final class JudgeTest {
    private static final int BITS = Lab.EASIEST;
    private static Lab lab;
    private static byte[] tip;
    private static int time;

    private static void due(String what, long got, long want) {
        Lab.due(what, got, want);
    }

    /** Judged, and nothing is done by that; then given, with the same number. */
    private static void dueBlock(String what, byte[] block, int want) {
        lab.load(block);
        int before = state();
        due("18: " + what, lab.x.judge(0, 5), want);
        due("18: the tape stays, " + what, Arrays.equals(lab.tape(), block) ? 1 : 0, 1);
        due("18: nothing is done, " + what, state(), before);
        if (want == 0 || want == 6) return;
        due("19: " + what, lab.x.give(0, 5), want);
        due("19: the tape is empty, " + what, lab.x.house(5), 0);
        due("19: nothing comes of it, " + what, state(), before);
    }

    private static void dueTx(String what, byte[] tx, int want) {
        lab.load(tx);
        int before = state();
        due("18: " + what, lab.x.judge(0, 6), want);
        due("18: the tape stays, " + what, Arrays.equals(lab.tape(), tx) ? 1 : 0, 1);
        due("18: nothing is done, " + what, state(), before);
        if (want == 0) return;
        due("19: " + what, lab.x.give(0, 6), want);
        due("19: the tape is empty, " + what, lab.x.house(5), 0);
        due("19: nothing comes of it, " + what, state(), before);
    }

    private static int state() {
        int sum = 0;
        for (int w = 0; w <= 10; w++) sum = 31 * sum + lab.x.told(0, w);
        return 31 * sum + lab.x.house(4);
    }

    /** Node 0 has eight blocks behind the FIRST one, all rewards are seed 0's; 0 to 5 are ripe. */
    private static void start() {
        lab = new Lab(1);
        lab.mine(0, 0, 8);
        tip = lab.tipHash(0);
        time = lab.x.due(0, 1) + 1;
    }

    private static long id(int i) {
        return lab.x.unspent(0, i, 0);
    }

    private static byte[] block(byte[]... txs) {
        return Lab.craft(tip, time, BITS, txs);
    }

    private static byte[] reward() {
        return Lab.reward(9, 4096, 7);
    }

    private static void form() {
        byte[] right = block(reward());
        dueBlock("right", right, 0);
        dueBlock("nothing", new byte[0], 1);
        dueBlock("a header alone", Arrays.copyOf(right, 80), 1);
        dueBlock("without its last byte", Arrays.copyOf(right, 102), 1);
        dueBlock("with one more", Arrays.copyOf(right, 104), 1);
        dueBlock("a time of 2^31", Lab.with(right, 64, 128), 1);
        for (int n : new int[] {0, 2, 9, 255}) dueBlock("so many transactions " + n, Lab.with(right, 80, n), 1);
        for (int n : new int[] {1, 5, 255}) dueBlock("so many inputs " + n, Lab.with(right, 81, n), 1);
        for (int m : new int[] {0, 2, 5, 255}) dueBlock("so many outputs " + m, Lab.with(right, 82, m), 1);
        dueBlock("a height of 2^31", Lab.with(right, 83, 128), 1);
        byte[] with = block(reward(), Lab.tx(Lab.ins(id(0), 0, 0), 1, 1));
        dueBlock("right with a transaction", with, 0);
        dueBlock("a place of 4", Lab.with(with, 103 + 2 + 8, 4), 1);
        dueBlock("a place of 255", Lab.with(with, 103 + 2 + 8, 255), 1);
        byte[] later = Lab.reward(9, 1, 1);
        later[2] = -128;
        dueBlock("a height of 2^31 in a later reward", block(reward(), later), 1);
        dueBlock("form comes before all", Lab.with(Model.firstBlock().raw, 64, 128), 1);
    }

    /** As many bytes as its numbers say, but the numbers are none told. */
    private static byte[] raw(int n, int m) {
        byte[] all = new byte[2 + (n == 0 ? 4 : 73 * n) + 16 * m];
        all[0] = (byte) n;
        all[1] = (byte) m;
        return all;
    }

    private static void counts() {
        int[][] odd = {{5, 1}, {1, 5}, {0, 5}, {1, 0}, {0, 0}, {5, 5}};
        for (int[] o : odd) {
            dueTx("of " + o[0] + " and " + o[1], raw(o[0], o[1]), 1);
            dueBlock("of " + o[0] + " and " + o[1], block(reward(), raw(o[0], o[1])), 1);
        }
        dueTx("four and four", raw(4, 4), 10);
        dueBlock("four and four", block(reward(), raw(4, 4)), 10);
        byte[][] many = new byte[9][];
        for (int i = 0; i < 9; i++) many[i] = i == 0 ? reward() : raw(1, 1);
        dueBlock("nine transactions", block(many), 1);
        dueBlock("eight transactions", block(Arrays.copyOf(many, 8)), 10);
        dueBlock("no transactions", Lab.work(Model.join(tip, new byte[32], Model.bytes(time), Model.bytes(BITS), new byte[9])), 1);
    }

    private static void header() {
        dueBlock("the FIRST one", Model.firstBlock().raw, 2);
        dueBlock("the tip", lab.block(0, 8), 2);
        byte[] known = lab.block(0, 3);
        dueBlock("known by its header alone", Lab.with(known, known.length - 1, 99), 2);
        byte[] right = block(reward());
        byte[] lazy = right.clone();
        do {
            ByteBuffer.wrap(lazy).putLong(72, ByteBuffer.wrap(lazy).getLong(72) + 1);
        } while (Model.meets(Lab.hashOf(lazy), BITS));
        dueBlock("no work", lazy, 3);
        for (int bits : new int[] {0x2010FFFF, 0x210FFFFF, 0x03FFFFFF, 0x20007FFF, 0x1F800000, 0, -1}) {
            dueBlock("bits " + bits, bitsOf(right, bits), 3);
        }
        dueBlock("work comes before root", Lab.with(lazy, lazy.length - 1, 99), 3);
        byte[] rootless = Lab.with(right, right.length - 1, right[right.length - 1] ^ 1);
        dueBlock("another root", rootless, 4);
        byte[] two = Model.join(Arrays.copyOf(right, 80), new byte[] {2}, reward(), reward());
        dueBlock("root comes before reward", Lab.work(two), 4);
        dueBlock("two rewards", block(reward(), reward()), 5);
        dueBlock("no reward", block(Lab.tx(Lab.ins(id(0), 0, 0), 1, 1)), 5);
        dueBlock("the reward is the last", block(Lab.tx(Lab.ins(id(0), 0, 0), 1, 1), reward()), 5);
        byte[] lost = new byte[32];
        dueBlock("reward comes before orphan", Lab.craft(lost, time, BITS, reward(), reward()), 5);
        dueBlock("an orphan", Lab.craft(lost, time, BITS, reward()), 6);
        dueBlock("orphan comes before due", Lab.craft(lost, 1, 0x1F7FFFFF, Lab.reward(1, 0, 0)), 6);
        dueBlock("other bits", Lab.craft(tip, time, 0x200FFFFE, reward()), 7);
        dueBlock("due comes before time", Lab.craft(tip, 1, 0x1F7FFFFF, reward()), 7);
        dueBlock("the middle time", Lab.craft(tip, time - 1, BITS, reward()), 8);
        dueBlock("time 0", Lab.craft(tip, 0, BITS, reward()), 8);
        dueBlock("time comes before height", Lab.craft(tip, 0, BITS, Lab.reward(8, 1, 1)), 8);
        dueBlock("height 8", block(Lab.reward(8, 4096, 7)), 9);
        dueBlock("height 10", block(Lab.reward(10, 4096, 7)), 9);
        dueBlock("height comes before input", block(Lab.reward(0, 4096, 7), Lab.tx(Lab.ins(1, 0, 0), 1, 1)), 9);
        dueBlock("the greatest time", Lab.craft(tip, Integer.MAX_VALUE, BITS, reward()), 0);
        dueBlock("behind an older one", Lab.craft(Lab.hashOf(lab.block(0, 3)), time, BITS, Lab.reward(4, 4096, 7)), 0);
    }

    private static byte[] bitsOf(byte[] block, int bits) {
        byte[] copy = block.clone();
        ByteBuffer.wrap(copy).putInt(68, bits);
        return copy;
    }

    private static void transactions() {
        byte[] spends = Lab.tx(Lab.ins(id(0), 0, 0), 4000, 1, 90, 2);
        dueBlock("with a fee of 6", block(Lab.reward(9, 4102, 7), spends), 0);
        dueBlock("a reward of more", block(Lab.reward(9, 4103, 7), spends), 14);
        dueBlock("a reward of less", block(Lab.reward(9, 1, 7), spends), 0);
        dueBlock("nothing there", block(reward(), Lab.tx(Lab.ins(77, 0, 0), 1, 1)), 10);
        dueBlock("another place", block(reward(), Lab.tx(Lab.ins(id(0), 1, 0), 1, 1)), 10);
        dueBlock("ripe", block(reward(), Lab.tx(Lab.ins(id(5), 0, 0), 4096, 1)), 0);
        dueBlock("not yet ripe", block(reward(), Lab.tx(Lab.ins(id(6), 0, 0), 4096, 1)), 10);
        dueBlock("not at all ripe", block(reward(), Lab.tx(Lab.ins(id(8), 0, 0), 4096, 1)), 10);
        dueBlock("its own reward", block(reward(), Lab.tx(Lab.ins(Lab.idOf(reward()), 0, 7), 4096, 1)), 10);
        dueBlock("the same input", block(reward(), Lab.tx(Lab.ins(id(0), 0, 0, id(0), 0, 0), 1, 1)), 10);
        dueBlock("spent in the block", block(reward(), spends, Lab.tx(Lab.ins(id(0), 0, 0), 1, 1)), 10);
        byte[] chained = Lab.tx(Lab.ins(Lab.idOf(spends), 1, 2), 90, 3);
        dueBlock("what came in the block", block(reward(), spends, chained), 0);
        dueBlock("what comes behind it", block(reward(), chained, spends), 10);
        dueBlock("another's key", block(reward(), Lab.tx(Lab.ins(id(0), 0, 1), 1, 1)), 11);
        byte[] bent = spends.clone();
        bent[2 + 9 + 63] ^= 1;
        dueBlock("a bent signature", block(reward(), bent), 11);
        byte[] other = spends.clone();
        other[spends.length - 1] ^= 1;
        dueBlock("signed for others", block(reward(), other), 11);
        dueBlock("input by input", block(reward(), Lab.tx(Lab.ins(id(0), 0, 1, 77, 0, 0), 1, 1)), 11);
        dueBlock("input by input", block(reward(), Lab.tx(Lab.ins(77, 0, 0, id(0), 0, 1), 1, 1)), 10);
        dueBlock("signature before amount", block(reward(), Lab.tx(Lab.ins(id(0), 0, 1), 0, 1)), 11);
        amounts();
        dueBlock("the first of two", block(reward(), Lab.tx(Lab.ins(id(0), 0, 0), 0, 1), Lab.tx(Lab.ins(77, 0, 0), 1, 1)), 12);
        dueBlock("transactions before the reward", block(Lab.reward(9, 0, 1), Lab.tx(Lab.ins(77, 0, 0), 1, 1)), 10);
        dueBlock("a reward of 0", block(Lab.reward(9, 0, 1)), 14);
        dueBlock("a reward below 0", block(Lab.reward(9, -1, 1, 5, 1)), 14);
        dueBlock("a reward above the subsidy", block(Lab.reward(9, 4097, 1)), 14);
        dueBlock("all together above it", block(Lab.reward(9, 4095, 1, 2, 1)), 14);
        dueBlock("four that are just it", block(Lab.reward(9, 1, 1, 1, 1, 1, 1, 4093, 1)), 0);
        dueBlock("a reward of 2^63 - 1", block(Lab.reward(9, Long.MAX_VALUE, 1)), 14);
    }

    private static void amounts() {
        long most = 1L << 40;
        dueBlock("all of it", block(reward(), Lab.tx(Lab.ins(id(0), 0, 0), 4096, 1)), 0);
        dueBlock("more than it has", block(reward(), Lab.tx(Lab.ins(id(0), 0, 0), 4097, 1)), 12);
        dueBlock("together more", block(reward(), Lab.tx(Lab.ins(id(0), 0, 0), 4095, 1, 2, 1)), 12);
        dueBlock("two inputs", block(reward(), Lab.tx(Lab.ins(id(0), 0, 0, id(1), 0, 0), 8192, 1)), 0);
        dueBlock("four inputs", block(reward(), Lab.tx(Lab.ins(id(0), 0, 0, id(1), 0, 0, id(2), 0, 0, id(3), 0, 0), 16384, 1)), 0);
        for (long a : new long[] {0, -1, Long.MIN_VALUE, most, most + 1, Long.MAX_VALUE}) {
            dueBlock("an amount of " + a, block(reward(), Lab.tx(Lab.ins(id(0), 0, 0), 1, 1, a, 1)), 12);
        }
    }

    private static void pool() {
        byte[] tx = Lab.tx(Lab.ins(id(0), 0, 0), 4000, 1, 90, 2);
        dueTx("right", tx, 0);
        dueTx("nothing", new byte[0], 1);
        dueTx("one byte", new byte[1], 1);
        dueTx("without its last byte", Arrays.copyOf(tx, tx.length - 1), 1);
        dueTx("with one more", Arrays.copyOf(tx, tx.length + 1), 1);
        dueTx("a place of 4", Lab.with(tx, 10, 4), 1);
        dueTx("five inputs", Lab.with(tx, 0, 5), 1);
        dueTx("no outputs", Lab.with(tx, 1, 0), 1);
        dueTx("five outputs", Lab.with(tx, 1, 5), 1);
        dueTx("a reward", Lab.reward(9, 1, 1), 5);
        dueTx("a reward of a height of 2^31", Lab.with(Lab.reward(9, 1, 1), 2, 128), 1);
        dueTx("nothing there", Lab.tx(Lab.ins(77, 0, 0), 1, 1), 10);
        dueTx("ripe", Lab.tx(Lab.ins(id(5), 0, 0), 1, 1), 0);
        dueTx("not yet ripe", Lab.tx(Lab.ins(id(6), 0, 0), 1, 1), 10);
        dueTx("the same input", Lab.tx(Lab.ins(id(0), 0, 0, id(0), 0, 0), 1, 1), 10);
        dueTx("another's key", Lab.tx(Lab.ins(id(0), 0, 1), 1, 1), 11);
        dueTx("too much", Lab.tx(Lab.ins(id(0), 0, 0), 4097, 1), 12);
        dueTx("an amount of 0", Lab.tx(Lab.ins(id(0), 0, 0), 1, 1, 0, 1), 12);
        due("19: taken", lab.giveTx(0, tx), 0);
        due("19: it is in the pool", lab.x.told(0, 5), 1);
        dueTx("known", tx, 2);
        dueTx("what is in the pool is not unspent", Lab.tx(Lab.ins(Lab.idOf(tx), 0, 1), 1, 1), 10);
        dueTx("a clash", Lab.tx(Lab.ins(id(1), 0, 0, id(0), 0, 0), 1, 1), 16);
        dueTx("amount comes before clash", Lab.tx(Lab.ins(id(0), 0, 0), 4097, 1), 12);
        byte[] block = block(reward(), Lab.tx(Lab.ins(id(0), 0, 0), 1, 1));
        dueBlock("a block does not look at the pool", block, 0);
    }

    private static void refusals() {
        ChainHouse x = new ChainHouse(2);
        for (int kind : new int[] {5, 6}) {
            for (int node : new int[] {-1, 2, Integer.MAX_VALUE}) {
                due("18: no such node", x.judge(node, kind), ChainHouse.BAD);
                due("19: no such node", x.give(node, kind), ChainHouse.BAD);
            }
        }
        x.feed(1, 2, 3, 4, 5);
        x.down(1);
        for (int kind : new int[] {-1, 0, 1, 4, 7}) {
            for (int node = 0; node < 2; node++) {
                due("18: no such kind", x.judge(node, kind), ChainHouse.BAD);
                due("19: no such kind", x.give(node, kind), ChainHouse.BAD);
            }
        }
        for (int kind : new int[] {5, 6}) {
            due("18: down", x.judge(1, kind), ChainHouse.IS_DOWN);
            due("19: down", x.give(1, kind), ChainHouse.IS_DOWN);
        }
        due("19: refusals leave the tape", x.house(5), 20);
        due("19: form", x.give(0, 6), 1);
        due("19: the tape is empty then", x.house(5), 0);
        due("19: it was no message of the queue", x.told(0, 9), 0);
        due("19: nor a refused one", x.told(0, 10), 0);
    }

    public static void main(String[] args) {
        start();
        form();
        counts();
        header();
        transactions();
        pool();
        refusals();
        Lab.end();
    }
}
