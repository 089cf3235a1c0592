import java.util.ArrayDeque;

/** A ChainHouse and a Model that get the same calls; every answer that differs is printed. */
final class Pair {
    static int wrong = 0;
    static long calls = 0;

    final String run;
    final int nodes;
    final ChainHouse x;
    final Model m;
    private final ArrayDeque<String> last = new ArrayDeque<>();

    Pair(String run, int nodes) {
        this.run = run;
        this.nodes = Math.max(1, Math.min(6, nodes));
        x = new ChainHouse(nodes);
        m = new Model(nodes);
    }

    private long same(long got, long want, String name, Object... args) {
        calls++;
        StringBuilder call = new StringBuilder(name).append('(');
        for (int i = 0; i < args.length; i++) call.append(i == 0 ? "" : ", ").append(args[i]);
        call.append(") = ").append(want);
        last.add(call.toString());
        if (last.size() > 60) last.remove();
        if (got != want) {
            wrong++;
            System.out.println(run + ": " + call + " is due, got " + got);
            if (wrong == 1) for (String s : last) System.out.println("    " + s);
            if (wrong > 20) System.exit(1);
        }
        return want;
    }

    private int sameInt(int got, int want, String name, Object... args) {
        return (int) same(got, want, name, args);
    }

    int feed(int a, int b, int c, int d, int e) {
        return sameInt(x.feed(a, b, c, d, e), m.feed(a, b, c, d, e), "feed", a, b, c, d, e);
    }

    int cut(int n) {
        return sameInt(x.cut(n), m.cut(n), "cut", n);
    }

    int turn(int i, int b) {
        return sameInt(x.turn(i, b), m.turn(i, b), "turn", i, b);
    }

    long hash(boolean twice, int k) {
        return same(x.hash(twice, k), m.hash(twice, k), "hash", twice, k);
    }

    long part(long seed, int i, int n) {
        return same(x.part(seed, i, n), m.part(seed, i, n), "part", seed, i, n);
    }

    long address(long seed) {
        return same(x.address(seed), m.address(seed), "address", seed);
    }

    int begin() {
        return sameInt(x.begin(), m.begin(), "begin");
    }

    int input(long id, int place, long seed) {
        return sameInt(x.input(id, place, seed), m.input(id, place, seed), "input", id, place, seed);
    }

    int spend(int node, int i, long seed) {
        return sameInt(x.spend(node, i, seed), m.spend(node, i, seed), "spend", node, i, seed);
    }

    int output(long amount, long address) {
        return sameInt(x.output(amount, address), m.output(amount, address), "output", amount, address);
    }

    int pay(long amount, long seed) {
        return sameInt(x.pay(amount, seed), m.pay(amount, seed), "pay", amount, seed);
    }

    int sign(int height) {
        return sameInt(x.sign(height), m.sign(height), "sign", height);
    }

    int take(int node, int k) {
        return sameInt(x.take(node, k), m.take(node, k), "take", node, k);
    }

    int assemble(int node, long seed, int time) {
        return sameInt(x.assemble(node, seed, time), m.assemble(node, seed, time), "assemble", node, seed, time);
    }

    int root() {
        return sameInt(x.root(), m.root(), "root");
    }

    int solve(long nonce, int n) {
        return sameInt(x.solve(nonce, n), m.solve(nonce, n), "solve", nonce, n);
    }

    int judge(int node, int kind) {
        return sameInt(x.judge(node, kind), m.judge(node, kind), "judge", node, kind);
    }

    int give(int node, int kind) {
        return sameInt(x.give(node, kind), m.give(node, kind), "give", node, kind);
    }

    int post(int from, int to, int kind) {
        return sameInt(x.post(from, to, kind), m.post(from, to, kind), "post", from, to, kind);
    }

    int link(int a, int b, int delay) {
        return sameInt(x.link(a, b, delay), m.link(a, b, delay), "link", a, b, delay);
    }

    int tick(int n) {
        return sameInt(x.tick(n), m.tick(n), "tick", n);
    }

    int message(int k, int what) {
        return sameInt(x.message(k, what), m.message(k, what), "message", k, what);
    }

    int messageByte(int k, int i) {
        return sameInt(x.messageByte(k, i), m.messageByte(k, i), "messageByte", k, i);
    }

    int alter(int k, int i, int b) {
        return sameInt(x.alter(k, i, b), m.alter(k, i, b), "alter", k, i, b);
    }

    int lose(int k) {
        return sameInt(x.lose(k), m.lose(k), "lose", k);
    }

    int down(int node) {
        return sameInt(x.down(node), m.down(node), "down", node);
    }

    int up(int node) {
        return sameInt(x.up(node), m.up(node), "up", node);
    }

    int fuse(int node, int n) {
        return sameInt(x.fuse(node, n), m.fuse(node, n), "fuse", node, n);
    }

    int peek(int node, int i) {
        return sameInt(x.peek(node, i), m.peek(node, i), "peek", node, i);
    }

    int poke(int node, int i, int b) {
        return sameInt(x.poke(node, i, b), m.poke(node, i, b), "poke", node, i, b);
    }

    int told(int node, int what) {
        return sameInt(x.told(node, what), m.told(node, what), "told", node, what);
    }

    int house(int what) {
        return sameInt(x.house(what), m.house(what), "house", what);
    }

    int block(int node, int k, int what) {
        return sameInt(x.block(node, k, what), m.block(node, k, what), "block", node, k, what);
    }

    long limb(int node, int k, int what) {
        return same(x.limb(node, k, what), m.limb(node, k, what), "limb", node, k, what);
    }

    int at(int node, int height) {
        return sameInt(x.at(node, height), m.at(node, height), "at", node, height);
    }

    long unspent(int node, int i, int what) {
        return same(x.unspent(node, i, what), m.unspent(node, i, what), "unspent", node, i, what);
    }

    int find(int node, long id, int place) {
        return sameInt(x.find(node, id, place), m.find(node, id, place), "find", node, id, place);
    }

    long balance(int node, long seed) {
        return same(x.balance(node, seed), m.balance(node, seed), "balance", node, seed);
    }

    long pooled(int node, int i, int what) {
        return same(x.pooled(node, i, what), m.pooled(node, i, what), "pooled", node, i, what);
    }

    int due(int node, int what) {
        return sameInt(x.due(node, what), m.due(node, what), "due", node, what);
    }

    // ---- all that can be seen

    void lookAround(boolean disks) {
        for (int w = -1; w <= 9; w++) house(w);
        hash(false, 0);
        for (int k = 0; k < m.queue.size(); k++) {
            for (int w = 0; w < 5; w++) message(k, w);
            for (int i = 0; i < m.queue.get(k).bytes().length; i += 13) messageByte(k, i);
        }
        for (int n = 0; n < nodes; n++) lookAt(n, disks);
    }

    private void lookAt(int n, boolean disks) {
        for (int w = 0; w <= 10; w++) told(n, w);
        Model.Nd nd = m.nodes[n];
        for (int k = 0; k <= nd.blocks.size(); k++) {
            for (int w = 0; w <= 6; w++) block(n, k, w);
            for (int w = 0; w <= 13; w++) limb(n, k, w);
            at(n, k);
        }
        for (int i = 0; i <= nd.tip.unspent.size(); i++) {
            for (int w = 0; w <= 6; w++) unspent(n, i, w);
        }
        for (int i = 0; i <= nd.pool.size(); i++) {
            for (int w = 0; w <= 3; w++) pooled(n, i, w);
        }
        for (int w = 0; w < 3; w++) due(n, w);
        for (int i = 0; disks && i < 12288; i++) peek(n, i);
    }
}
