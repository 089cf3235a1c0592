import java.nio.ByteBuffer;
import java.util.Arrays;

/**
 * A ChainHouse whose calls are counted. What it answers behind its 512th call is free, so no test of an
 * edge may ask for that: the 513th call counts as a wrong answer.
 */
final class House {
    private static final int CALLS_MOST = 512;

    private final ChainHouse x;
    private int calls;

    House(int nodes) {
        x = new ChainHouse(nodes);
    }

    /** For what can't be brought about by calls. */
    ChainHouse inside() {
        return x;
    }

    int calls() {
        return calls;
    }

    private ChainHouse next() {
        calls++;
        if (calls == CALLS_MOST + 1) Edges.due("calls of one object", calls, CALLS_MOST);
        return x;
    }

    // ---- the face

    int feed(int a, int b, int c, int d, int e) {
        return next().feed(a, b, c, d, e);
    }

    int cut(int n) {
        return next().cut(n);
    }

    int turn(int i, int b) {
        return next().turn(i, b);
    }

    long hash(boolean twice, int k) {
        return next().hash(twice, k);
    }

    long part(long seed, int i, int n) {
        return next().part(seed, i, n);
    }

    long address(long seed) {
        return next().address(seed);
    }

    int begin() {
        return next().begin();
    }

    int input(long id, int place, long seed) {
        return next().input(id, place, seed);
    }

    int spend(int node, int i, long seed) {
        return next().spend(node, i, seed);
    }

    int output(long amount, long address) {
        return next().output(amount, address);
    }

    int pay(long amount, long seed) {
        return next().pay(amount, seed);
    }

    int sign(int height) {
        return next().sign(height);
    }

    int take(int node, int k) {
        return next().take(node, k);
    }

    int assemble(int node, long seed, int time) {
        return next().assemble(node, seed, time);
    }

    int root() {
        return next().root();
    }

    int solve(long nonce, int n) {
        return next().solve(nonce, n);
    }

    int judge(int node, int kind) {
        return next().judge(node, kind);
    }

    int give(int node, int kind) {
        return next().give(node, kind);
    }

    int post(int from, int to, int kind) {
        return next().post(from, to, kind);
    }

    int link(int a, int b, int delay) {
        return next().link(a, b, delay);
    }

    int tick(int n) {
        return next().tick(n);
    }

    int message(int k, int what) {
        return next().message(k, what);
    }

    int messageByte(int k, int i) {
        return next().messageByte(k, i);
    }

    int alter(int k, int i, int b) {
        return next().alter(k, i, b);
    }

    int lose(int k) {
        return next().lose(k);
    }

    int down(int node) {
        return next().down(node);
    }

    int up(int node) {
        return next().up(node);
    }

    int fuse(int node, int n) {
        return next().fuse(node, n);
    }

    int peek(int node, int i) {
        return next().peek(node, i);
    }

    int poke(int node, int i, int b) {
        return next().poke(node, i, b);
    }

    int told(int node, int what) {
        return next().told(node, what);
    }

    int house(int what) {
        return next().house(what);
    }

    int block(int node, int k, int what) {
        return next().block(node, k, what);
    }

    long limb(int node, int k, int what) {
        return next().limb(node, k, what);
    }

    int at(int node, int height) {
        return next().at(node, height);
    }

    long unspent(int node, int i, int what) {
        return next().unspent(node, i, what);
    }

    int find(int node, long id, int place) {
        return next().find(node, id, place);
    }

    long balance(int node, long seed) {
        return next().balance(node, seed);
    }

    long pooled(int node, int i, int what) {
        return next().pooled(node, i, what);
    }

    int due(int node, int what) {
        return next().due(node, what);
    }

    // ---- bytes in and out

    /** The tape, which is empty, becomes these bytes. */
    House load(byte[] all) {
        ByteBuffer b = ByteBuffer.wrap(Arrays.copyOf(all, (all.length + 19) / 20 * 20));
        while (b.hasRemaining()) feed(b.getInt(), b.getInt(), b.getInt(), b.getInt(), b.getInt());
        if (all.length % 20 != 0) cut(20 - all.length % 20);
        return this;
    }

    /** Empties the tape first. */
    House reload(byte[] all) {
        cut(house(5));
        return load(all);
    }

    /** The tape has just these bytes. */
    void tapeIs(String what, byte[] want) {
        Edges.due("bytes of " + what, house(5), want.length);
        ByteBuffer hash = ByteBuffer.wrap(Model.h(want));
        for (int k = 0; k < 4; k++) Edges.due("the hash of " + what, hash(false, k), hash.getLong());
    }

    /** Message k has just these numbers and bytes. */
    void messageIs(String what, int k, int[] want, byte[] bytes) {
        for (int w = 0; w < 4; w++) Edges.due(what + ": message(" + k + ", " + w + ")", message(k, w), want[w]);
        Edges.due(what + ": bytes of message " + k, message(k, 4), bytes.length);
        // Of many bytes not each one is looked at, for that would be too many calls.
        int step = bytes.length > 160 ? 11 : 1;
        for (int i = 0; i < bytes.length; i += step) {
            Edges.due(what + ": byte " + i + " of message " + k, messageByte(k, i), bytes[i] & 255);
        }
    }

    /** A node's disk has these bytes at a place. */
    void diskIs(String what, int node, int from, byte[] want) {
        for (int i = 0; i < want.length; i++) {
            Edges.due(what + ": byte " + (from + i) + " of the disk", peek(node, from + i), want[i] & 255);
        }
    }

    void pokeAll(int node, int from, byte[] bytes) {
        for (int i = 0; i < bytes.length; i++) poke(node, from + i, bytes[i]);
    }

    int give(int node, byte[] block) {
        return load(block).give(node, 5);
    }

    int judge(int node, byte[] block) {
        int verdict = load(block).judge(node, 5);
        cut(block.length);
        return verdict;
    }

    int giveTx(int node, byte[] tx) {
        return load(tx).give(node, 6);
    }

    int judgeTx(int node, byte[] tx) {
        int verdict = load(tx).judge(node, 6);
        cut(tx.length);
        return verdict;
    }

    int post(int from, int to, int kind, byte[] bytes) {
        return load(bytes).post(from, to, kind);
    }

    void loseAll() {
        for (int k = house(2); k > 0; k--) lose(0);
    }

    // ---- blocks

    /** A block of a time behind a node's tip, all of it to a seed: how it is judged. */
    int mine(int node, long seed, int time) {
        assemble(node, seed, time);
        for (long from = 0; from < 20000; from += 2000) {
            if (solve(from, 2000) != ChainHouse.NO) break;
        }
        return give(node, 5);
    }

    /** A node gets the blocks of the plain chain from a height to another. */
    House grow(int node, int from, int to) {
        for (int h = from; h <= to; h++) mine(node, 0, Plain.time(h));
        return this;
    }

    /** The tape becomes a transaction of the coin of a height of the plain chain. */
    House drawCoin(int height, long amount, long seed) {
        begin();
        input(Plain.coin(height), 0, 0);
        pay(amount, seed);
        sign(0);
        return this;
    }
}
