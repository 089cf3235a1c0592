import java.lang.reflect.Field;

/** For what no run of calls can bring about: changes what a house holds inside. */
final class Inside {
    private Inside() {
    }

    private static Object field(Object of, String name) {
        try {
            Field f = of.getClass().getDeclaredField(name);
            f.setAccessible(true);
            return f.get(of);
        } catch (ReflectiveOperationException e) {
            throw new IllegalStateException(e);
        }
    }

    private static Object node(House h, int node) {
        return ((Object[]) field(h.inside(), "nodes"))[node];
    }

    /** The i-th of what is UNSPENT behind a node's TIP gets another ID. */
    static void nameCoin(House h, int node, int i, long id) {
        ((long[]) field(field(node(h, node), "coins"), "id"))[i] = id;
    }

    /** The i-th of what is UNSPENT behind a node's TIP gets another AMOUNT. */
    static void fillCoin(House h, int node, int i, long amount) {
        ((long[]) field(field(node(h, node), "coins"), "amount"))[i] = amount;
    }

    /** The REWARD of a stored block gets another ID, by which its outputs are known to blocks that are judged. */
    static void nameReward(House h, int node, int block, long id) {
        ((long[]) field(field(node(h, node), "tree"), "ids"))[8 * block] = id;
    }

    /** The first OUTPUT of the REWARD of a stored block gets another AMOUNT. */
    static void fillReward(House h, int node, int block, long amount) {
        Object rows = field(field(node(h, node), "tree"), "rows");
        byte[] bytes = (byte[]) field(rows, "bytes");
        int at = ((int[]) field(rows, "start"))[block] + 81 + 6;
        System.arraycopy(Model.bytes(amount), 0, bytes, at, 8);
    }
}
