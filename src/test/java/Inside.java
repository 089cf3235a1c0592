import java.lang.reflect.Field;
import java.lang.reflect.Method;

/** For what no run of calls can bring about: changes what a house holds inside. */
final class Inside {
    private Inside() {
    }

    private static Object field(Object of, String name) {
        try {
            Field f = of.getClass().getDeclaredField(name);
            f.setAccessible(true);
            return f.get(of);
        } catch (ReflectiveOperationException e) {
            throw new IllegalStateException(e);
        }
    }

    private static Object node(ChainHouse x, int node) {
        return ((Object[]) field(x, "nodes"))[node];
    }

    private static Object node(House h, int node) {
        return node(h.inside(), node);
    }

    /** Where the bytes of a node's LOST ones are kept, one behind the other. */
    static byte[] lostBytes(ChainHouse x, int node) {
        return (byte[]) field(field(node(x, node), "lost"), "bytes");
    }

    /** The i-th of what is UNSPENT behind a node's TIP gets another ID. */
    static void nameCoin(House h, int node, int i, long id) {
        ((long[]) field(field(node(h, node), "coins"), "id"))[i] = id;
    }

    /** The i-th of what is UNSPENT behind a node's TIP gets another AMOUNT. */
    static void fillCoin(House h, int node, int i, long amount) {
        ((long[]) field(field(node(h, node), "coins"), "amount"))[i] = amount;
    }

    /** The REWARD of a stored block gets another ID, by which its outputs are known to blocks that are judged. */
    static void nameReward(House h, int node, int block, long id) {
        ((long[]) field(field(node(h, node), "tree"), "ids"))[8 * block] = id;
    }

    /** The first OUTPUT of the REWARD of a stored block gets another AMOUNT. */
    static void fillReward(House h, int node, int block, long amount) {
        Object rows = field(field(node(h, node), "tree"), "rows");
        byte[] bytes = (byte[]) field(rows, "bytes");
        int at = ((int[]) field(rows, "start"))[block] + 81 + 6;
        System.arraycopy(Model.bytes(amount), 0, bytes, at, 8);
    }

    private static Object call(Object of, String name, Object... args) {
        try {
            for (Method m : of.getClass().getDeclaredMethods()) {
                if (!m.getName().equals(name)) continue;
                m.setAccessible(true);
                return m.invoke(of, args);
            }
        } catch (ReflectiveOperationException e) {
            throw new IllegalStateException(e);
        }
        throw new IllegalStateException("no method " + name);
    }

    /** Whether a hash that is just the TARGET of BITS meets it. */
    static boolean meetsItself(House h, int bits) {
        Object target = field(h.inside(), "target");
        call(target, "load", bits);
        return (boolean) call(target, "isMetBy", ((int[]) field(target, "words")).clone());
    }

    /** How the transactions of a block behind a node's TIP are judged, if its REWARD had the ID of the one behind it. */
    static int judgeOfOneId(House h, int node, byte[] block) {
        Object judge = field(h.inside(), "judge"), tree = field(node(h, node), "tree");
        // The judge finds out where they start, and their IDs.
        h.judge(node, block);
        long[] ids = (long[]) field(judge, "ids");
        ids[0] = ids[1];
        int tip = (int) field(tree, "tip");
        call(field(judge, "coins"), "replay", tree, tip);
        return (int) call(judge, "ofTransactions", block, (int) block[80], h.told(node, 3) + 1);
    }
}
