import java.math.BigInteger;

/** Promises 32 to 41: what there is, and what is answered where there is nothing. */
public final class StateTest {
    private static final int[] ODD = {-1, 6, 1000, Integer.MIN_VALUE, Integer.MAX_VALUE};

    private static void due(String what, long got, long want) {
        Lab.due(what, got, want);
    }

    private static void fresh() {
        ChainHouse x = new ChainHouse(2);
        int[] told = {1, 1, 0, 0, 1, 0, 0, 0, ChainHouse.NO, 0, 0};
        int[] block = {ChainHouse.NO, 0, 1000, 0x200FFFFF, 1, 103, 1};
        for (int n = 0; n < 2; n++) {
            for (int w = 0; w < told.length; w++) due("32: told " + w, x.told(n, w), told[w]);
            for (int w = 0; w < block.length; w++) due("34: block " + w, x.block(n, 0, w), block[w]);
            BigInteger hash = new BigInteger(1, Lab.hashOf(Model.firstBlock().raw));
            BigInteger target = Model.target(0x200FFFFF);
            for (int k = 0; k < 4; k++) {
                due("35: hash", x.limb(n, 0, k), Model.limbOf(hash, k));
                due("35: total", x.limb(n, 0, 4 + k), k == 3 ? 16 : 0);
                due("35: target", x.limb(n, 0, 8 + k), Model.limbOf(target, k));
            }
            due("35: nonce", x.limb(n, 0, 12), 42);
            due("36: at 0", x.at(n, 0), 0);
            due("39: balance", x.balance(n, 0), 4096);
            due("39: balance of another", x.balance(n, 1), 0);
            due("41: bits", x.due(n, 0), 0x200FFFFF);
            due("41: middle", x.due(n, 1), 1000);
            due("41: subsidy", x.due(n, 2), 4096);
        }
    }

    private static void nothingThere() {
        ChainHouse x = new ChainHouse(6);
        for (int n : ODD) {
            due("32: no node", x.told(n, 0), ChainHouse.BAD);
            due("34: no node", x.block(n, 0, 0), ChainHouse.BAD);
            due("35: no node", x.limb(n, 0, 0), 0);
            due("36: no node", x.at(n, 0), ChainHouse.BAD);
            due("37: no node", x.unspent(n, 0, 2), 0);
            due("38: no node", x.find(n, x.unspent(0, 0, 0), 0), ChainHouse.BAD);
            due("39: no node", x.balance(n, 0), 0);
            due("40: no node", x.pooled(n, 0, 2), 0);
            due("41: no node", x.due(n, 0), ChainHouse.BAD);
        }
        for (int k : new int[] {-1, 1, Integer.MIN_VALUE, Integer.MAX_VALUE}) {
            due("34: no block", x.block(0, k, 1), ChainHouse.BAD);
            due("35: no block", x.limb(0, k, 8), 0);
            due("36: no height", x.at(0, k), ChainHouse.BAD);
            due("37: none unspent", x.unspent(0, k, 2), 0);
            due("40: none in the pool", x.pooled(0, k, 2), 0);
        }
        for (int w : new int[] {-1, Integer.MIN_VALUE, Integer.MAX_VALUE}) {
            due("32: no number", x.told(0, w), ChainHouse.BAD);
            due("33: no number", x.house(w), ChainHouse.BAD);
            due("34: no number", x.block(0, 0, w), ChainHouse.BAD);
            due("35: no number", x.limb(0, 0, w), 0);
            due("37: no number", x.unspent(0, 0, w), 0);
            due("41: no number", x.due(0, w), ChainHouse.BAD);
        }
        due("32: no number 11", x.told(0, 11), ChainHouse.BAD);
        due("33: no number 9", x.house(9), ChainHouse.BAD);
        due("34: no number 7", x.block(0, 0, 7), ChainHouse.BAD);
        due("35: no number 13", x.limb(0, 0, 13), 0);
        due("37: no number 6", x.unspent(0, 0, 6), 0);
        due("41: no number 3", x.due(0, 3), ChainHouse.BAD);
    }

    private static void down() {
        Lab lab = new Lab(2);
        ChainHouse x = lab.x;
        lab.mine(0, 0, 4);
        long id = x.unspent(0, 0, 0);
        lab.giveTx(0, Lab.tx(Lab.ins(id, 0, 0), 1, 1));
        due("40: in the pool", x.pooled(0, 0, 1), 4095);
        x.down(0);
        due("32: down", x.told(0, 0), 0);
        for (int w = 1; w <= 8; w++) due("32: down, " + w, x.told(0, w), ChainHouse.NO);
        due("32: down, 9", x.told(0, 9), 0);
        due("32: down, 10", x.told(0, 10), 0);
        due("32: down, 11", x.told(0, 11), ChainHouse.BAD);
        due("32: down, -1", x.told(0, -1), ChainHouse.BAD);
        due("34: down", x.block(0, 0, 1), ChainHouse.IS_DOWN);
        due("34: down, blocks are not looked at", x.block(0, 99, 1), ChainHouse.IS_DOWN);
        due("34: down, but no number", x.block(0, 0, 7), ChainHouse.BAD);
        due("35: down", x.limb(0, 0, 0), 0);
        due("36: down", x.at(0, 0), ChainHouse.IS_DOWN);
        due("36: down, heights are not looked at", x.at(0, -1), ChainHouse.IS_DOWN);
        due("37: down", x.unspent(0, 0, 2), 0);
        due("38: down", x.find(0, id, 0), ChainHouse.IS_DOWN);
        due("39: down", x.balance(0, 0), 0);
        due("40: down", x.pooled(0, 0, 1), 0);
        due("41: down", x.due(0, 0), ChainHouse.IS_DOWN);
        due("41: down, but no number", x.due(0, 3), ChainHouse.BAD);
    }

    /** What is unspent, in the order in which it came. */
    private static void unspent() {
        Lab lab = new Lab(1);
        ChainHouse x = lab.x;
        lab.mine(0, 0, 6);
        byte[] a = Lab.tx(Lab.ins(x.unspent(0, 1, 0), 0, 0, x.unspent(0, 3, 0), 0, 0), 5000, 1, 3000, 2, 92, 0);
        byte[] b = Lab.tx(Lab.ins(Lab.idOf(a), 1, 2), 1000, 3, 2000, 2);
        byte[] reward = Lab.reward(7, 4000, 4, 196, 5);
        byte[] block = Lab.craft(lab.tipHash(0), x.due(0, 1) + 1, Lab.EASIEST, reward, a, b);
        long[] rewards = new long[7];
        for (int i = 0; i < 7; i++) rewards[i] = x.unspent(0, i, 0);
        due("19: a block", lab.give(0, block), 0);
        long[][] want = {{rewards[0], 0, 4096, 0, 0, 1}, {rewards[2], 0, 4096, 0, 2, 1}, {rewards[4], 0, 4096, 0, 4, 1},
            {rewards[5], 0, 4096, 0, 5, 1}, {rewards[6], 0, 4096, 0, 6, 1}, {Lab.idOf(reward), 0, 4000, 4, 7, 1},
            {Lab.idOf(reward), 1, 196, 5, 7, 1}, {Lab.idOf(a), 0, 5000, 1, 7, 0}, {Lab.idOf(a), 2, 92, 0, 7, 0},
            {Lab.idOf(b), 0, 1000, 3, 7, 0}, {Lab.idOf(b), 1, 2000, 2, 7, 0}};
        due("32: how many", x.told(0, 4), want.length);
        for (int i = 0; i < want.length; i++) {
            for (int w = 0; w < 6; w++) {
                due("37: unspent " + i + ", " + w, x.unspent(0, i, w), w == 3 ? Model.keyAddress(want[i][3]) : want[i][w]);
            }
            due("38: find " + i, x.find(0, want[i][0], (int) want[i][1]), i);
            due("38: no such place", x.find(0, want[i][0], 3), ChainHouse.NO);
        }
        due("38: it is spent", x.find(0, rewards[1], 0), ChainHouse.NO);
        due("38: it is spent", x.find(0, Lab.idOf(a), 1), ChainHouse.NO);
        for (int place : new int[] {-1, 256, 4, Integer.MIN_VALUE}) due("38: any place", x.find(0, rewards[0], place), ChainHouse.NO);
        due("38: no such id", x.find(0, 12345, 0), ChainHouse.NO);
        long[] balances = {5 * 4096 + 92, 5000, 2000, 1000, 4000, 196, 0};
        for (int seed = 0; seed < balances.length; seed++) due("39: balance of " + seed, x.balance(0, seed), balances[seed]);
        due("34: transactions", x.block(0, 7, 4), 3);
        due("34: bytes", x.block(0, 7, 5), block.length);
        due("35: nonce", x.limb(0, 7, 12), java.nio.ByteBuffer.wrap(block).getLong(72));
        due("35: total", x.limb(0, 7, 7), 8 * 16);
        BigInteger hash = new BigInteger(1, Lab.hashOf(block));
        for (int k = 0; k < 4; k++) due("35: hash", x.limb(0, 7, k), Model.limbOf(hash, k));
    }

    private static void pooled() {
        Lab lab = new Lab(1);
        ChainHouse x = lab.x;
        lab.mine(0, 0, 6);
        byte[] a = Lab.tx(Lab.ins(x.unspent(0, 1, 0), 0, 0, x.unspent(0, 2, 0), 0, 0), 5000, 1, 3000, 2);
        byte[] b = Lab.tx(Lab.ins(x.unspent(0, 0, 0), 0, 0), 4096, 1);
        lab.giveTx(0, a);
        lab.giveTx(0, b);
        long[][] want = {{Lab.idOf(a), 192, a.length}, {Lab.idOf(b), 0, b.length}};
        for (int i = 0; i < 2; i++) {
            for (int w = 0; w < 3; w++) due("40: pooled " + i + ", " + w, x.pooled(0, i, w), want[i][w]);
            due("40: no number 3", x.pooled(0, i, 3), 0);
            due("40: no number -1", x.pooled(0, i, -1), 0);
        }
        due("40: not there", x.pooled(0, 2, 2), 0);
        int many = x.told(0, 4);
        lab.mine(0, 3, 1);
        due("32: the pool is empty", x.told(0, 5), 0);
        for (int w = 0; w < 3; w++) due("40: not any more", x.pooled(0, 0, w), 0);
        due("32: unspent", x.told(0, 4), many + 1 + 3 - 3);
        for (int k = 0; k < 8; k++) due("35: the highest limb of a total", x.limb(0, k, 4), 0);
        byte[] c = Lab.tx(Lab.ins(Lab.idOf(a), 0, 1, Lab.idOf(a), 1, 2, Lab.idOf(b), 0, 1, x.unspent(0, 0, 0), 0, 0), 1, 9);
        due("19: into the pool", lab.giveTx(0, c), 0);
        lab.mine(0, 3, 1);
        due("32: fewer are unspent", x.told(0, 4), many - 1);
        for (int w = 0; w < 6; w++) due("37: not any more", x.unspent(0, many - 1, w), 0);
        due("39: balance", x.balance(0, 9), 1);
        due("39: all is spent", x.balance(0, 1), 0);
        due("39: all is spent", x.balance(0, 2), 0);
    }

    public static void main(String[] args) {
        fresh();
        nothingThere();
        down();
        unspent();
        pooled();
        Lab.end();
    }
}
