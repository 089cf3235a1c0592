import java.nio.ByteBuffer;
import java.util.ArrayList;
import java.util.Arrays;
import java.util.List;

/** What the tests share: a house, ways to bring bytes on its tape, and blocks put together by hand. */
final class Lab {
    static final int EASIEST = 0x200FFFFF;
    private static int wrong = 0;
    private static int asked = 0;

    final ChainHouse x;

    Lab(int nodes) {
        this(new ChainHouse(nodes));
    }

    Lab(ChainHouse x) {
        this.x = x;
    }

    static void due(String what, long got, long want) {
        asked++;
        if (got != want) {
            wrong++;
            System.out.println(what + " answered " + got + ", due is " + want);
        }
    }

    static void end() {
        System.out.println(asked + " answers, " + wrong + " are not as due");
        if (wrong != 0) System.exit(1);
    }

    // ---- the tape

    /** The tape becomes these bytes. */
    Lab load(byte[] all) {
        x.cut(x.house(5));
        ByteBuffer b = ByteBuffer.wrap(Arrays.copyOf(all, (all.length + 19) / 20 * 20));
        while (b.hasRemaining()) x.feed(b.getInt(), b.getInt(), b.getInt(), b.getInt(), b.getInt());
        x.cut(x.house(5) - all.length);
        return this;
    }

    byte[] tape() {
        byte[] all = new byte[x.house(5)];
        for (int i = 0; i < all.length; i++) all[i] = (byte) x.turn(i, 0);
        return all;
    }

    byte[] message(int k) {
        byte[] all = new byte[x.message(k, 4)];
        for (int i = 0; i < all.length; i++) all[i] = (byte) x.messageByte(k, i);
        return all;
    }

    int give(int node, byte[] block) {
        return load(block).x.give(node, 5);
    }

    int giveTx(int node, byte[] tx) {
        return load(tx).x.give(node, 6);
    }

    int judge(int node, byte[] block) {
        return load(block).x.judge(node, 5);
    }

    int judgeTx(int node, byte[] tx) {
        return load(tx).x.judge(node, 6);
    }

    int post(int from, int to, int kind, byte[] bytes) {
        return load(bytes).x.post(from, to, kind);
    }

    // ---- by the calls themselves

    /** Block k of a node, as bytes. */
    byte[] block(int node, int k) {
        x.take(node, k);
        return tape();
    }

    /** A solved block behind a node's tip; the tape has it, too. */
    byte[] solved(int node, long seed, int time) {
        x.assemble(node, seed, time);
        for (long from = 0; x.solve(from, 2000) < 0 && from < 40000; from += 2000) { }
        return tape();
    }

    /** Assembles, solves and gives, a second behind the other. */
    int mine(int node, long seed, int many) {
        int last = 0;
        for (int i = 0; i < many; i++) {
            solved(node, seed, x.due(node, 1) + 10);
            last = x.give(node, 5);
        }
        return last;
    }

    byte[] tipHash(int node) {
        return hashOf(block(node, x.told(node, 2)));
    }

    // ---- by hand

    static byte[] hashOf(byte[] block) {
        return Model.hh(Arrays.copyOf(block, 80));
    }

    static long idOf(byte[] tx) {
        return Model.shortOf(tx);
    }

    /** A reward of a height; its outputs are an amount and a seed each. */
    static byte[] reward(int height, long... outs) {
        byte[] all = Model.join(new byte[] {0, (byte) (outs.length / 2)}, Model.bytes(height));
        return Model.join(all, outputs(outs));
    }

    private static byte[] outputs(long... outs) {
        byte[] all = new byte[0];
        for (int i = 0; i < outs.length; i += 2) all = Model.join(all, Model.bytes(outs[i]), Model.bytes(Model.keyAddress(outs[i + 1])));
        return all;
    }

    /** A transaction whose inputs are an id, a place and a seed each. */
    static byte[] tx(long[] ins, long... outs) {
        int n = ins.length / 3;
        ByteBuffer b = ByteBuffer.allocate(2 + 73 * n + 8 * outs.length);
        b.put((byte) n).put((byte) (outs.length / 2));
        for (int i = 0; i < n; i++) b.putLong(ins[3 * i]).put((byte) ins[3 * i + 1]).put(new byte[64]);
        b.put(outputs(outs));
        int[] d = Model.digits(b.array());
        for (int i = 0; i < n; i++) {
            for (int j = 0; j < 8; j++) b.putLong(2 + 73 * i + 9 + 8 * j, Model.keyPart(ins[3 * i + 2], j, d[j]));
        }
        return b.array();
    }

    static long[] ins(long... ins) {
        return ins;
    }

    /** A block with root and work. */
    static byte[] craft(byte[] before, int time, int bits, byte[]... txs) {
        byte[] all = Model.join(before, new byte[32], Model.bytes(time), Model.bytes(bits), new byte[8], new byte[] {(byte) txs.length});
        return work(root(Model.join(all, Model.join(txs)), txs));
    }

    static byte[] root(byte[] block, byte[]... txs) {
        List<Model.Tx> list = new ArrayList<>();
        for (byte[] t : txs) {
            Model.Tx one = new Model.Tx();
            one.raw = t;
            list.add(one);
        }
        System.arraycopy(Model.rootOf(list), 0, block, 32, 32);
        return block;
    }

    /** Gives a block the least nonce with which it has work. */
    static byte[] work(byte[] block) {
        ByteBuffer b = ByteBuffer.wrap(block);
        for (long nonce = 0; ; nonce++) {
            b.putLong(72, nonce);
            if (Model.meets(hashOf(block), b.getInt(68))) return block;
        }
    }

    /** The same with one byte changed. */
    static byte[] with(byte[] all, int i, int b) {
        byte[] copy = all.clone();
        copy[i] = (byte) b;
        return copy;
    }
}
