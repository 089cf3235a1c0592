import java.math.BigInteger;
import java.nio.ByteBuffer;
import java.security.MessageDigest;
import java.security.NoSuchAlgorithmException;
import java.util.ArrayList;
import java.util.Arrays;
import java.util.Collections;
import java.util.List;

/**
 * The document told again in plain Java with the whole library (MessageDigest, BigInteger, lists that
 * are made anew for every block): slow, and held apart from ChainHouse, so that both can be compared.
 */
final class Model {
    static final int BAD = -1, IS_DOWN = -2, FULL = -3, NO = -4;
    static final BigInteger EASIEST = target(0x200FFFFF);

    // ---- hashes, keys

    static byte[] join(byte[]... rows) {
        int n = 0;
        for (byte[] r : rows) n += r.length;
        ByteBuffer all = ByteBuffer.allocate(n);
        for (byte[] r : rows) all.put(r);
        return all.array();
    }

    static byte[] h(byte[]... rows) {
        try {
            return MessageDigest.getInstance("SHA-256").digest(join(rows));
        } catch (NoSuchAlgorithmException e) {
            throw new IllegalStateException(e);
        }
    }

    static byte[] hh(byte[]... rows) {
        return h(h(rows));
    }

    static long shortOf(byte[]... rows) {
        return ByteBuffer.wrap(h(rows)).getLong();
    }

    static byte[] bytes(long v) {
        return ByteBuffer.allocate(8).putLong(v).array();
    }

    static byte[] bytes(int v) {
        return ByteBuffer.allocate(4).putInt(v).array();
    }

    static long steps(long v, int i, int from, int to) {
        for (int j = from; j < to; j++) v = shortOf(bytes(v), new byte[] {(byte) i, (byte) (16 + j)});
        return v;
    }

    static long keyPart(long seed, int i, int n) {
        return steps(shortOf(bytes(seed), new byte[] {(byte) i}), i, 0, n);
    }

    static long keyAddress(long seed) {
        ByteBuffer ends = ByteBuffer.allocate(64);
        for (int i = 0; i < 8; i++) ends.putLong(keyPart(seed, i, 15));
        return shortOf(ends.array());
    }

    static int[] digits(byte[] what) {
        byte[] hash = h(what);
        int[] d = new int[8];
        int c = 0;
        for (int i = 0; i < 6; i++) {
            d[i] = i % 2 == 0 ? (hash[i / 2] & 255) / 16 : (hash[i / 2] & 255) % 16;
            c += 15 - d[i];
        }
        d[6] = c / 16;
        d[7] = c % 16;
        return d;
    }

    static BigInteger target(int bits) {
        return BigInteger.valueOf(bits & 0xFFFFFF).multiply(BigInteger.valueOf(256).pow(Math.max(0, (bits >>> 24) - 3)));
    }

    static boolean bitsRight(int bits) {
        int e = bits >>> 24, m = bits & 0xFFFFFF;
        return e >= 4 && e <= 32 && m >= 32768 && m <= 8388607 && target(bits).compareTo(EASIEST) <= 0;
    }

    static int toBits(BigInteger t) {
        for (int e = 3; ; e++) {
            BigInteger m = t.divide(BigInteger.valueOf(256).pow(e - 3));
            if (m.compareTo(BigInteger.valueOf(8388607)) <= 0) return e << 24 | m.intValue();
        }
    }

    static boolean meets(byte[] hash, int bits) {
        return new BigInteger(1, hash).compareTo(target(bits)) <= 0;
    }

    static BigInteger work(int bits) {
        return BigInteger.ONE.shiftLeft(256).divide(target(bits).add(BigInteger.ONE));
    }

    static long limbOf(BigInteger v, int k) {
        return v.shiftRight(64 * (3 - k)).longValue();
    }

    static long subsidy(int height) {
        return height / 32 > 40 ? 0 : 4096L >> height / 32;
    }

    // ---- transactions, blocks

    record Coin(long id, int place, long amount, long address, int height, boolean reward) { }

    static final class Tx {
        byte[] raw;
        int n, m, height;
        long[] ids, amounts, addresses;
        int[] places;
        long[][] sigs;

        long id() {
            return shortOf(raw);
        }

        byte[] bare() {
            byte[] b = raw.clone();
            for (int i = 0; i < n; i++) Arrays.fill(b, 2 + 73 * i + 9, 2 + 73 * i + 73, (byte) 0);
            return b;
        }
    }

    /** Reads a transaction from where a buffer stands; null if there is none. */
    static Tx readTx(ByteBuffer b) {
        int from = b.position();
        if (b.remaining() < 2) return null;
        Tx t = new Tx();
        t.n = b.get() & 255;
        t.m = b.get() & 255;
        if (t.n > 4 || t.m < 1 || t.m > 4) return null;
        if (b.remaining() < (t.n == 0 ? 4 : 0) + 73 * t.n + 16 * t.m) return null;
        if (t.n == 0) {
            t.height = b.getInt();
            if (t.height < 0) return null;
        }
        t.ids = new long[t.n];
        t.places = new int[t.n];
        t.sigs = new long[t.n][8];
        for (int i = 0; i < t.n; i++) {
            t.ids[i] = b.getLong();
            t.places[i] = b.get() & 255;
            if (t.places[i] > 3) return null;
            for (int j = 0; j < 8; j++) t.sigs[i][j] = b.getLong();
        }
        t.amounts = new long[t.m];
        t.addresses = new long[t.m];
        for (int i = 0; i < t.m; i++) {
            t.amounts[i] = b.getLong();
            t.addresses[i] = b.getLong();
        }
        t.raw = Arrays.copyOfRange(b.array(), from, b.position());
        return t;
    }

    static Tx parseTx(byte[] raw) {
        ByteBuffer b = ByteBuffer.wrap(raw);
        Tx t = readTx(b);
        return t == null || b.hasRemaining() ? null : t;
    }

    static final class Blk {
        byte[] raw, hash, prev, root;
        int time, bits;
        long nonce;
        List<Tx> txs = new ArrayList<>();
        Blk before;
        int height;
        BigInteger total;
        List<Coin> unspent;

        byte[] header() {
            return Arrays.copyOf(raw, 80);
        }
    }

    static Blk readHeader(byte[] raw) {
        Blk k = new Blk();
        k.raw = raw;
        ByteBuffer b = ByteBuffer.wrap(raw);
        k.prev = new byte[32];
        k.root = new byte[32];
        b.get(k.prev).get(k.root);
        k.time = b.getInt();
        k.bits = b.getInt();
        k.nonce = b.getLong();
        k.hash = hh(k.header());
        return k;
    }

    static Blk parseBlk(byte[] raw) {
        if (raw.length < 81) return null;
        Blk k = readHeader(raw);
        if (k.time < 0) return null;
        ByteBuffer b = ByteBuffer.wrap(raw);
        b.position(80);
        int many = b.get() & 255;
        if (many < 1 || many > 8) return null;
        for (int i = 0; i < many; i++) {
            Tx t = readTx(b);
            if (t == null) return null;
            k.txs.add(t);
        }
        return b.hasRemaining() ? null : k;
    }

    static byte[] rootOf(List<Tx> txs) {
        List<byte[]> row = new ArrayList<>();
        for (Tx t : txs) row.add(hh(t.raw));
        while (row.size() > 1) {
            List<byte[]> next = new ArrayList<>();
            for (int i = 0; i < row.size(); i += 2) {
                next.add(i + 1 < row.size() ? hh(row.get(i), row.get(i + 1)) : row.get(i));
            }
            row = next;
        }
        return row.get(0);
    }

    static int dueBehind(Blk k) {
        if ((k.height + 1) % 16 != 0) return k.bits;
        Blk old = k;
        while (old.height > k.height - 15) old = old.before;
        long s = Math.max(40, Math.min(640, (long) k.time - old.time));
        BigInteger t = target(k.bits).multiply(BigInteger.valueOf(s)).divide(BigInteger.valueOf(160));
        return toBits(t.min(EASIEST));
    }

    static int middleBehind(Blk k) {
        List<Integer> times = new ArrayList<>();
        for (Blk b = k; b != null && times.size() < 11; b = b.before) times.add(b.time);
        Collections.sort(times);
        return times.get(times.size() / 2);
    }

    static Coin coin(List<Coin> coins, long id, int place) {
        for (Coin c : coins) if (c.id == id && c.place == place) return c;
        return null;
    }

    static List<Coin> behind(List<Coin> coins, Tx t, int height) {
        List<Coin> next = new ArrayList<>(coins);
        for (int i = 0; i < t.n; i++) next.remove(coin(next, t.ids[i], t.places[i]));
        for (int i = 0; i < t.m; i++) next.add(new Coin(t.id(), i, t.amounts[i], t.addresses[i], height, t.n == 0));
        return next;
    }

    static long paid(Tx t) {
        long sum = 0;
        for (long a : t.amounts) {
            if (a < 1 || a > 1L << 40) return -1;
            sum += a;
        }
        return sum;
    }

    static long brought(List<Coin> coins, Tx t) {
        long sum = 0;
        for (int i = 0; i < t.n; i++) sum += coin(coins, t.ids[i], t.places[i]).amount;
        return sum;
    }

    static boolean isOf(long[] sig, int[] digits, long address) {
        ByteBuffer ends = ByteBuffer.allocate(64);
        for (int i = 0; i < 8; i++) ends.putLong(steps(sig[i], i, digits[i], 15));
        return shortOf(ends.array()) == address;
    }

    static int judgeTx(List<Coin> coins, Tx t, int height) {
        int[] d = digits(t.bare());
        for (int i = 0; i < t.n; i++) {
            Coin c = coin(coins, t.ids[i], t.places[i]);
            if (c == null) return 10;
            for (int j = 0; j < i; j++) if (t.ids[j] == t.ids[i] && t.places[j] == t.places[i]) return 10;
            if (c.reward && c.height > height - 4) return 10;
            if (!isOf(t.sigs[i], d, c.address)) return 11;
        }
        if (paid(t) < 0 || paid(t) > brought(coins, t)) return 12;
        long id = t.id();
        for (Coin c : coins) if (c.id == id) return 13;
        return 0;
    }

    // ---- nodes

    static final class Nd {
        int number;
        boolean up = true;
        byte[] disk = new byte[12288];
        int next, fuse = -1, received, refused;
        List<Blk> blocks = new ArrayList<>();
        Blk tip;
        List<Tx> pool = new ArrayList<>();
        List<Blk> lost = new ArrayList<>();

        Blk stored(byte[] hash) {
            for (Blk b : blocks) if (Arrays.equals(b.hash, hash)) return b;
            return null;
        }

        boolean onChain(Blk k, Blk top) {
            for (Blk b = top; b != null; b = b.before) if (b == k) return true;
            return false;
        }

        Blk atHeight(int height) {
            Blk b = tip;
            while (b != null && b.height > height) b = b.before;
            return b;
        }
    }

    record Msg(int from, int to, int kind, int tick, byte[] bytes) { }

    final Nd[] nodes;
    final int[][] delay = new int[6][6];
    final List<Msg> queue = new ArrayList<>();
    byte[] tape = new byte[0];
    int now, gone, tries = 200000;
    final List<long[]> ins = new ArrayList<>(), outs = new ArrayList<>();
    private static Blk first;

    Model(int n) {
        nodes = new Nd[Math.max(1, Math.min(6, n))];
        for (int i = 0; i < nodes.length; i++) {
            nodes[i] = new Nd();
            nodes[i].number = i;
            append(nodes[i], firstBlock());
        }
    }

    static Blk firstBlock() {
        if (first != null) return first;
        byte[] reward = join(new byte[] {0, 1}, bytes(0), bytes(4096L), bytes(keyAddress(0)));
        byte[] root = hh(reward);
        for (long nonce = 0; first == null; nonce++) {
            byte[] raw = join(new byte[32], root, bytes(1000), bytes(0x200FFFFF), bytes(nonce), new byte[] {1}, reward);
            if (meets(hh(Arrays.copyOf(raw, 80)), 0x200FFFFF)) first = parseBlk(raw);
        }
        first.total = work(first.bits);
        first.unspent = behind(List.of(), first.txs.get(0), 0);
        return first;
    }

    private static void append(Nd nd, Blk k) {
        nd.blocks.add(k);
        if (nd.tip == null || k.total.compareTo(nd.tip.total) > 0) nd.tip = k;
    }

    private int judgeBlk(Nd nd, byte[] raw, boolean room) {
        Blk k = parseBlk(raw);
        if (k == null) return 1;
        if (nd.stored(k.hash) != null) return 2;
        if (!bitsRight(k.bits) || !meets(k.hash, k.bits)) return 3;
        if (!Arrays.equals(k.root, rootOf(k.txs))) return 4;
        for (int i = 0; i < k.txs.size(); i++) if ((k.txs.get(i).n == 0) != (i == 0)) return 5;
        Blk before = nd.stored(k.prev);
        if (before == null) return 6;
        if (k.bits != dueBehind(before)) return 7;
        if (k.time <= middleBehind(before)) return 8;
        Tx reward = k.txs.get(0);
        int height = before.height + 1;
        if (reward.height != height) return 9;
        List<Coin> coins = before.unspent;
        long fees = 0;
        for (Tx t : k.txs.subList(1, k.txs.size())) {
            int v = judgeTx(coins, t, height);
            if (v != 0) return v;
            if (t.id() == reward.id()) return 13;
            fees += brought(coins, t) - paid(t);
            coins = behind(coins, t, height);
        }
        if (paid(reward) < 0 || paid(reward) > subsidy(height) + fees) return 14;
        for (Coin c : coins) if (c.id == reward.id()) return 13;
        return room && nd.next + 2 + raw.length + 4 + 2 > 12288 ? 15 : 0;
    }

    /** A block that is right, ready to be appended. */
    private static Blk fill(Nd nd, byte[] raw) {
        Blk k = parseBlk(raw);
        k.before = nd.stored(k.prev);
        k.height = k.before.height + 1;
        k.total = k.before.total.add(work(k.bits));
        k.unspent = k.before.unspent;
        for (Tx t : k.txs) k.unspent = behind(k.unspent, t, k.height);
        return k;
    }

    private static byte[] record(int place, byte[] raw) {
        byte[] p = {(byte) (place >> 8), (byte) place};
        byte[] length = {(byte) (raw.length >> 8), (byte) raw.length};
        return join(length, raw, Arrays.copyOf(h(p, raw), 4));
    }

    private static boolean write(Nd nd, byte[] raw) {
        byte[] r = record(nd.next, raw);
        for (int i : new int[] {nd.next, nd.next + 1, nd.next + r.length, nd.next + r.length + 1}) nd.disk[i] = 0;
        for (int i = r.length - 1; i >= 0; i--) {
            if (nd.fuse == 0) {
                nd.up = false;
                return false;
            }
            if (nd.fuse > 0) nd.fuse--;
            nd.disk[nd.next + i] = r[i];
        }
        nd.next += r.length;
        return true;
    }

    private int judgePool(Nd nd, byte[] raw) {
        Tx t = parseTx(raw);
        if (t == null) return 1;
        for (Tx p : nd.pool) if (Arrays.equals(p.raw, raw)) return 2;
        if (t.n == 0) return 5;
        int v = judgeTx(nd.tip.unspent, t, nd.tip.height + 1);
        if (v != 0) return v;
        for (Tx p : nd.pool) {
            for (int i = 0; i < p.n; i++) {
                for (int j = 0; j < t.n; j++) if (p.ids[i] == t.ids[j] && p.places[i] == t.places[j]) return 16;
            }
        }
        return nd.pool.size() == 16 ? 15 : 0;
    }

    private void renew(Nd nd, Blk old) {
        List<Tx> wait = new ArrayList<>(nd.pool);
        List<Blk> left = new ArrayList<>();
        for (Blk b = old; b != null; b = b.before) if (!nd.onChain(b, nd.tip)) left.add(0, b);
        for (Blk b : left) wait.addAll(b.txs.subList(1, b.txs.size()));
        nd.pool.clear();
        for (Tx t : wait) if (judgePool(nd, t.raw) == 0) nd.pool.add(t);
    }

    /** 1: stored, with all behind it; 0: the fuse ended. */
    private boolean store(Nd nd, byte[] raw, int sender) {
        Blk k = fill(nd, raw), old = nd.tip;
        if (!write(nd, raw)) return false;
        append(nd, k);
        if (nd.tip != old) renew(nd, old);
        spread(nd, sender, 1, k.hash);
        List<Blk> mine = new ArrayList<>();
        for (Blk o : nd.lost) if (Arrays.equals(o.prev, k.hash)) mine.add(o);
        nd.lost.removeAll(mine);
        for (Blk o : mine) if (judgeBlk(nd, o.raw, true) == 0 && !store(nd, o.raw, sender)) return false;
        return true;
    }

    private int takeBlk(Nd nd, byte[] raw, int sender) {
        int v = judgeBlk(nd, raw, true);
        if (v == 6) {
            Blk k = parseBlk(raw);
            for (Blk o : nd.lost) if (Arrays.equals(o.hash, k.hash)) return v;
            nd.lost.add(k);
            if (nd.lost.size() > 8) nd.lost.remove(0);
            ask(nd, sender);
        }
        return v == 0 && !store(nd, raw, sender) ? IS_DOWN : v;
    }

    private int takeTx(Nd nd, byte[] raw, int sender) {
        int v = judgePool(nd, raw);
        if (v == 0) {
            nd.pool.add(parseTx(raw));
            spread(nd, sender, 6, raw);
        }
        return v;
    }

    // ---- messages

    private boolean send(int from, int to, int kind, byte[] b) {
        int bytes = b.length;
        for (Msg m : queue) bytes += m.bytes.length;
        if (to < 0 || delay[from][to] == 0 || queue.size() == 200 || bytes > 40000) {
            gone++;
            return false;
        }
        queue.add(new Msg(from, to, kind, now + delay[from][to], b.clone()));
        return true;
    }

    private void spread(Nd nd, int sender, int kind, byte[] b) {
        for (int i = 0; i < nodes.length; i++) if (i != sender && delay[nd.number][i] > 0) send(nd.number, i, kind, b);
    }

    private void ask(Nd nd, int to) {
        List<byte[]> hashes = new ArrayList<>();
        hashes.add(nd.tip.hash);
        int low = nd.tip.height;
        for (int d = 1; d <= nd.tip.height; d += d) {
            low = nd.tip.height - d;
            hashes.add(nd.atHeight(low).hash);
        }
        if (low > 0) hashes.add(nd.blocks.get(0).hash);
        send(nd.number, to, 2, join(hashes.toArray(new byte[0][])));
    }

    private static List<byte[]> pieces(byte[] b, int size) {
        List<byte[]> all = new ArrayList<>();
        if (b.length % size != 0 || b.length == 0 || b.length > 16 * size) return all;
        for (int i = 0; i < b.length; i += size) all.add(Arrays.copyOfRange(b, i, i + size));
        return all;
    }

    private void receive(Nd nd, Msg m) {
        nd.received++;
        if (m.kind == 5 || m.kind == 6) {
            int v = m.kind == 5 ? takeBlk(nd, m.bytes, m.from) : takeTx(nd, m.bytes, m.from);
            if (v == 1) nd.refused++;
            return;
        }
        List<byte[]> rows = pieces(m.bytes, m.kind == 3 ? 80 : 32);
        if (rows.isEmpty()) nd.refused++;
        else if (m.kind == 1) hearTold(nd, rows, m.from);
        else if (m.kind == 2) hearAsk(nd, rows, m.from);
        else if (m.kind == 3) hearHeaders(nd, rows, m.from);
        else for (byte[] hash : rows) if (nd.stored(hash) != null) send(nd.number, m.from, 5, nd.stored(hash).raw);
    }

    private void hearTold(Nd nd, List<byte[]> rows, int from) {
        for (byte[] hash : rows) {
            if (nd.stored(hash) == null) {
                ask(nd, from);
                return;
            }
        }
    }

    private void hearAsk(Nd nd, List<byte[]> rows, int from) {
        for (byte[] hash : rows) {
            Blk k = nd.stored(hash);
            if (k == null || !nd.onChain(k, nd.tip)) continue;
            List<byte[]> headers = new ArrayList<>();
            for (int h = k.height + 1; h <= nd.tip.height && headers.size() < 16; h++) headers.add(nd.atHeight(h).header());
            if (!headers.isEmpty()) send(nd.number, from, 3, join(headers.toArray(new byte[0][])));
            return;
        }
    }

    private void hearHeaders(Nd nd, List<byte[]> rows, int from) {
        List<byte[]> wanted = new ArrayList<>();
        Blk last = null;
        for (byte[] row : rows) {
            Blk k = readHeader(row);
            Blk known = nd.stored(k.hash);
            if (known != null) {
                last = known;
                continue;
            }
            k.before = nd.stored(k.prev);
            if (k.before == null && last != null && Arrays.equals(last.hash, k.prev)) k.before = last;
            if (k.time < 0 || !bitsRight(k.bits) || !meets(k.hash, k.bits) || k.before == null) break;
            if (k.bits != dueBehind(k.before) || k.time <= middleBehind(k.before)) break;
            k.height = k.before.height + 1;
            wanted.add(k.hash);
            last = k;
        }
        if (!wanted.isEmpty()) send(nd.number, from, 4, join(wanted.toArray(new byte[0][])));
    }

    // ---- the face

    private Nd nd(int i) {
        return i < 0 || i >= nodes.length ? null : nodes[i];
    }

    private Nd ndUp(int i) {
        return nd(i) == null || !nd(i).up ? null : nd(i);
    }

    /** 0 if a node is there and UP, else what is answered. */
    private int state(int i) {
        return nd(i) == null ? BAD : nd(i).up ? 0 : IS_DOWN;
    }

    int feed(int a, int b, int c, int d, int e) {
        if (tape.length + 20 > 4000) return FULL;
        tape = join(tape, bytes(a), bytes(b), bytes(c), bytes(d), bytes(e));
        return tape.length;
    }

    int cut(int n) {
        if (n < 0 || n > tape.length) return BAD;
        tape = Arrays.copyOf(tape, tape.length - n);
        return tape.length;
    }

    int turn(int i, int b) {
        if (i < 0 || i >= tape.length) return BAD;
        tape[i] ^= (byte) b;
        return tape[i] & 255;
    }

    long hash(boolean twice, int k) {
        return k < 0 || k > 3 ? 0 : limbOf(new BigInteger(1, twice ? hh(tape) : h(tape)), k);
    }

    long part(long seed, int i, int n) {
        return i < 0 || i > 7 || n < 0 || n > 15 ? 0 : keyPart(seed, i, n);
    }

    long address(long seed) {
        return keyAddress(seed);
    }

    int begin() {
        int n = ins.size() + outs.size();
        ins.clear();
        outs.clear();
        return n;
    }

    int input(long id, int place, long seed) {
        if (place < 0 || place > 3) return BAD;
        if (ins.size() == 4) return FULL;
        ins.add(new long[] {id, place, seed});
        return ins.size();
    }

    int spend(int node, int i, long seed) {
        if (state(node) != 0) return state(node);
        List<Coin> coins = nd(node).tip.unspent;
        if (i < 0 || i >= coins.size()) return BAD;
        return input(coins.get(i).id, coins.get(i).place, seed);
    }

    int output(long amount, long address) {
        if (outs.size() == 4) return FULL;
        outs.add(new long[] {amount, address});
        return outs.size();
    }

    int pay(long amount, long seed) {
        return output(amount, keyAddress(seed));
    }

    int sign(int height) {
        if (outs.isEmpty() || ins.isEmpty() && height < 0) return BAD;
        ByteBuffer b = ByteBuffer.allocate(2 + (ins.isEmpty() ? 4 : 73 * ins.size()) + 16 * outs.size());
        b.put((byte) ins.size()).put((byte) outs.size());
        if (ins.isEmpty()) b.putInt(height);
        for (long[] i : ins) b.putLong(i[0]).put((byte) i[1]).put(new byte[64]);
        for (long[] o : outs) b.putLong(o[0]).putLong(o[1]);
        int[] d = digits(b.array());
        for (int i = 0; i < ins.size(); i++) {
            for (int j = 0; j < 8; j++) b.putLong(2 + 73 * i + 9 + 8 * j, keyPart(ins.get(i)[2], j, d[j]));
        }
        tape = b.array();
        return tape.length;
    }

    int take(int node, int k) {
        if (state(node) != 0) return state(node);
        if (k < 0 || k >= nd(node).blocks.size()) return BAD;
        tape = nd(node).blocks.get(k).raw.clone();
        return tape.length;
    }

    int assemble(int node, long seed, int time) {
        if (state(node) != 0) return state(node);
        Nd nd = nd(node);
        if (time <= middleBehind(nd.tip)) return BAD;
        List<Tx> best = new ArrayList<>(nd.pool);
        best.sort((a, b) -> Long.compare(fee(nd, b), fee(nd, a)));
        if (best.size() > 7) best = best.subList(0, 7);
        long sum = subsidy(nd.tip.height + 1);
        for (Tx t : best) sum += fee(nd, t);
        byte[] body = join(new byte[] {0, 1}, bytes(nd.tip.height + 1), bytes(sum), bytes(keyAddress(seed)));
        int many = 1 + best.size();
        for (Tx t : best) body = join(body, t.raw);
        byte[] tail = join(bytes(time), bytes(dueBehind(nd.tip)), bytes(0L), new byte[] {(byte) many}, body);
        byte[] root = rootOf(parseBlk(join(nd.tip.hash, new byte[32], tail)).txs);
        tape = join(nd.tip.hash, root, tail);
        return tape.length;
    }

    private static long fee(Nd nd, Tx t) {
        return brought(nd.tip.unspent, t) - paid(t);
    }

    int root() {
        Blk k = parseBlk(tape);
        if (k == null) return NO;
        byte[] root = rootOf(k.txs);
        System.arraycopy(root, 0, tape, 32, 32);
        return Arrays.equals(root, k.root) ? 0 : 1;
    }

    int solve(long nonce, int n) {
        if (n < 1 || n > 2000 || tape.length < 80) return BAD;
        int bits = ByteBuffer.wrap(tape).getInt(68);
        if (!bitsRight(bits)) return BAD;
        if (n > tries) return FULL;
        for (int i = 0; i < n; i++) {
            ByteBuffer.wrap(tape).putLong(72, nonce + i);
            tries--;
            if (meets(hh(Arrays.copyOf(tape, 80)), bits)) return i + 1;
        }
        return NO;
    }

    int judge(int node, int kind) {
        if (nd(node) == null || kind != 5 && kind != 6) return BAD;
        if (!nd(node).up) return IS_DOWN;
        return kind == 5 ? judgeBlk(nd(node), tape, true) : judgePool(nd(node), tape);
    }

    int give(int node, int kind) {
        if (nd(node) == null || kind != 5 && kind != 6) return BAD;
        if (!nd(node).up) return IS_DOWN;
        byte[] b = tape;
        tape = new byte[0];
        return kind == 5 ? takeBlk(nd(node), b, -1) : takeTx(nd(node), b, -1);
    }

    int post(int from, int to, int kind) {
        if (nd(from) == null || nd(to) == null || from == to || kind < 1 || kind > 6) return BAD;
        byte[] b = tape;
        tape = new byte[0];
        return send(from, to, kind, b) ? 1 : 0;
    }

    int link(int a, int b, int d) {
        if (nd(a) == null || nd(b) == null || a == b || d < 0 || d > 9) return BAD;
        int was = delay[a][b];
        delay[a][b] = delay[b][a] = d;
        return was;
    }

    int tick(int n) {
        if (n < 1 || n > 64) return BAD;
        int received = 0;
        for (int t = 0; t < n; t++) {
            now++;
            for (int k = 0; k < queue.size(); ) {
                if (queue.get(k).tick > now) {
                    k++;
                    continue;
                }
                Msg m = queue.remove(k);
                if (nd(m.to).up) {
                    received++;
                    receive(nd(m.to), m);
                } else {
                    gone++;
                }
            }
            if (now % 8 == 0) for (Nd nd : nodes) if (nd.up) spread(nd, -1, 1, nd.tip.hash);
        }
        return received;
    }

    int message(int k, int what) {
        if (k < 0 || k >= queue.size() || what < 0 || what > 4) return BAD;
        Msg m = queue.get(k);
        return new int[] {m.from, m.to, m.kind, m.tick, m.bytes.length}[what];
    }

    int messageByte(int k, int i) {
        return alter(k, i, 0);
    }

    int alter(int k, int i, int b) {
        if (k < 0 || k >= queue.size() || i < 0 || i >= queue.get(k).bytes.length) return BAD;
        return (queue.get(k).bytes[i] ^= (byte) b) & 255;
    }

    int lose(int k) {
        if (k < 0 || k >= queue.size()) return BAD;
        queue.remove(k);
        return queue.size();
    }

    int down(int node) {
        if (state(node) != 0) return state(node);
        nd(node).up = false;
        return nd(node).blocks.size();
    }

    int up(int node) {
        if (nd(node) == null) return BAD;
        Nd nd = nd(node);
        if (nd.up) return NO;
        nd.up = true;
        nd.fuse = -1;
        nd.next = 0;
        nd.pool.clear();
        nd.lost.clear();
        nd.blocks.clear();
        nd.tip = null;
        append(nd, firstBlock());
        while (nd.next + 2 <= 12288) {
            int length = (nd.disk[nd.next] & 255) << 8 | nd.disk[nd.next + 1] & 255;
            int end = nd.next + 2 + length + 4;
            if (length == 0 || end > 12288) break;
            byte[] raw = Arrays.copyOfRange(nd.disk, nd.next + 2, end - 4);
            if (!Arrays.equals(record(nd.next, raw), Arrays.copyOfRange(nd.disk, nd.next, end))) break;
            if (judgeBlk(nd, raw, false) != 0) break;
            append(nd, fill(nd, raw));
            nd.next = end;
        }
        return nd.blocks.size();
    }

    int fuse(int node, int n) {
        if (state(node) != 0) return state(node);
        nd(node).fuse = Math.max(-1, n);
        return 0;
    }

    int peek(int node, int i) {
        return nd(node) == null || i < 0 || i >= 12288 ? BAD : nd(node).disk[i] & 255;
    }

    int poke(int node, int i, int b) {
        int was = peek(node, i);
        if (was >= 0) nd(node).disk[i] = (byte) b;
        return was;
    }

    int told(int node, int what) {
        Nd nd = nd(node);
        if (nd == null || what < 0 || what > 10) return BAD;
        if (what == 0) return nd.up ? 1 : 0;
        if (what == 9) return nd.received;
        if (what == 10) return nd.refused;
        if (!nd.up) return NO;
        return new int[] {0, nd.blocks.size(), nd.blocks.indexOf(nd.tip), nd.tip.height, nd.tip.unspent.size(),
            nd.pool.size(), nd.lost.size(), nd.next, nd.fuse < 0 ? NO : nd.fuse}[what];
    }

    int house(int what) {
        int bytes = 0;
        for (Msg m : queue) bytes += m.bytes.length;
        return what < 0 || what > 8 ? BAD
            : new int[] {nodes.length, now, queue.size(), bytes, gone, tape.length, ins.size(), outs.size(), tries}[what];
    }

    int block(int node, int k, int what) {
        if (nd(node) == null || what < 0 || what > 6) return BAD;
        Nd nd = nd(node);
        if (!nd.up) return IS_DOWN;
        if (k < 0 || k >= nd.blocks.size()) return BAD;
        Blk b = nd.blocks.get(k);
        return new int[] {k == 0 ? NO : nd.blocks.indexOf(b.before), b.height, b.time, b.bits, b.txs.size(),
            b.raw.length, nd.onChain(b, nd.tip) ? 1 : 0}[what];
    }

    long limb(int node, int k, int what) {
        Nd nd = ndUp(node);
        if (nd == null || k < 0 || k >= nd.blocks.size() || what < 0 || what > 12) return 0;
        Blk b = nd.blocks.get(k);
        if (what == 12) return b.nonce;
        return limbOf(what < 4 ? new BigInteger(1, b.hash) : what < 8 ? b.total : target(b.bits), what % 4);
    }

    int at(int node, int height) {
        if (state(node) != 0) return state(node);
        Nd nd = nd(node);
        return height < 0 || height > nd.tip.height ? BAD : nd.blocks.indexOf(nd.atHeight(height));
    }

    long unspent(int node, int i, int what) {
        Nd nd = ndUp(node);
        if (nd == null || i < 0 || i >= nd.tip.unspent.size() || what < 0 || what > 5) return 0;
        Coin c = nd.tip.unspent.get(i);
        return new long[] {c.id, c.place, c.amount, c.address, c.height, c.reward ? 1 : 0}[what];
    }

    int find(int node, long id, int place) {
        if (state(node) != 0) return state(node);
        List<Coin> coins = nd(node).tip.unspent;
        for (int i = 0; i < coins.size(); i++) if (coins.get(i).id == id && coins.get(i).place == place) return i;
        return NO;
    }

    long balance(int node, long seed) {
        if (ndUp(node) == null) return 0;
        long address = keyAddress(seed), sum = 0;
        for (Coin c : nd(node).tip.unspent) if (c.address == address) sum += c.amount;
        return sum;
    }

    long pooled(int node, int i, int what) {
        Nd nd = ndUp(node);
        if (nd == null || i < 0 || i >= nd.pool.size() || what < 0 || what > 2) return 0;
        Tx t = nd.pool.get(i);
        return new long[] {t.id(), fee(nd, t), t.raw.length}[what];
    }

    int due(int node, int what) {
        if (nd(node) == null || what < 0 || what > 2) return BAD;
        Nd nd = nd(node);
        if (!nd.up) return IS_DOWN;
        return what == 0 ? dueBehind(nd.tip) : what == 1 ? middleBehind(nd.tip) : (int) subsidy(nd.tip.height + 1);
    }
}
