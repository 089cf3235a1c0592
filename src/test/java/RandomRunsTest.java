import java.util.List;
import java.util.Random;

/** Runs of calls by a seeded generator, compared with the model call by call. */
public final class RandomRunsTest {
    private static final int[] ODD = {-1, -2, Integer.MIN_VALUE, Integer.MAX_VALUE, 255, 256, 4000, 12288, 65536};

    private final Random r;
    private final Pair p;
    private final int nodes;
    /** Seconds between blocks, about. */
    private final int pace;

    private RandomRunsTest(long seed) {
        r = new Random(seed);
        nodes = 1 + r.nextInt(5);
        pace = 2 + r.nextInt(30);
        p = new Pair("random run " + seed, nodes);
    }

    /** A chain that all nodes have, and perhaps forks of it. */
    private void prepare() {
        int many = r.nextInt(4) == 0 ? 0 : r.nextInt(40);
        for (int i = 0; i < many; i++) {
            assembleAndSolve(0);
            p.give(0, 5);
            for (int n = 1; n < nodes; n++) {
                if (rarely(60)) continue;
                p.take(0, p.told(0, 2));
                p.give(n, 5);
            }
        }
        for (int a = 0; a < nodes; a++) {
            for (int b = 0; b < a; b++) if (rarely(2)) p.link(a, b, 1 + r.nextInt(3));
        }
    }

    private int node() {
        return r.nextInt(40) == 0 ? odd() : r.nextInt(nodes);
    }

    private int odd() {
        return r.nextBoolean() ? ODD[r.nextInt(ODD.length)] : r.nextInt(20) - 4;
    }

    private boolean rarely(int of) {
        return r.nextInt(of) == 0;
    }

    private Model.Nd some() {
        return p.m.nodes[r.nextInt(nodes)];
    }

    private void assembleAndSolve(int node) {
        int time = p.due(node, 1) + 1 + r.nextInt(2 * pace);
        if (rarely(20)) time = odd();
        p.assemble(node, r.nextInt(5), time);
        if (rarely(12)) tamper();
        for (int i = 0; i < 3; i++) {
            if (p.solve(rarely(10) ? -3 : 2000L * i, 2000) > 0) break;
        }
    }

    /** Changes what the tape has, mostly so that it still has a form and work. */
    private void tamper() {
        int many = p.house(5);
        if (many <= 0) return;
        int at = rarely(2) ? 80 + r.nextInt(Math.max(1, many - 80)) : r.nextInt(many);
        p.turn(at, 1 << r.nextInt(8));
        if (rarely(4)) p.cut(r.nextInt(4));
        if (!rarely(5)) p.root();
    }

    private void mine() {
        int node = node();
        assembleAndSolve(node);
        if (rarely(4)) p.judge(r.nextInt(nodes), 5);
        if (rarely(30)) p.fuse(node, r.nextInt(300));
        p.give(rarely(5) ? r.nextInt(nodes) : node, 5);
    }

    private static long seedOf(long address) {
        for (long s = 0; s < 5; s++) if (Model.keyAddress(s) == address) return s;
        return 0;
    }

    private void draftTx(int node) {
        p.begin();
        Model.Nd nd = node < 0 || node >= nodes ? p.m.nodes[0] : p.m.nodes[node];
        List<Model.Coin> coins = nd.tip.unspent;
        long sum = 0;
        int many = 1 + r.nextInt(rarely(3) ? 5 : 2);
        for (int i = 0; i < many; i++) {
            int c = r.nextInt(coins.size());
            for (int tries = 0; tries < 20 && (ripeIn(nd, coins.get(c)) > 0 || pooled(nd, coins.get(c))); tries++) c = r.nextInt(coins.size());
            sum += coins.get(c).amount();
            p.spend(node, rarely(50) ? odd() : c, rarely(40) ? 77 : seedOf(coins.get(c).address()));
        }
        if (rarely(30)) p.input(r.nextLong(), odd(), 1);
        int outs = 1 + r.nextInt(4);
        long fee = rarely(30) ? -1 : r.nextInt(3) * 10L;
        for (int i = 0; i < outs; i++) {
            long amount = i == outs - 1 ? sum - fee : Math.max(1, sum / 5);
            sum -= amount;
            if (rarely(60)) amount = rarely(2) ? 0 : 1L << 41;
            p.pay(amount, r.nextInt(5));
        }
        p.sign(rarely(10) ? odd() : 5);
    }

    private static int ripeIn(Model.Nd nd, Model.Coin c) {
        return c.reward() ? c.height() + 4 - nd.tip.height - 1 : 0;
    }

    private static boolean pooled(Model.Nd nd, Model.Coin c) {
        for (Model.Tx t : nd.pool) for (int i = 0; i < t.n; i++) if (t.ids[i] == c.id() && t.places[i] == c.place()) return true;
        return false;
    }

    private void transaction() {
        int node = node();
        draftTx(node);
        if (rarely(12)) tamper();
        if (rarely(4)) p.judge(r.nextInt(nodes), 6);
        if (rarely(6)) p.post(node, node(), 6);
        else p.give(rarely(5) ? node() : node, 6);
        if (rarely(4)) {
            p.sign(1);
            p.give(r.nextInt(nodes), 6);
        }
        if (rarely(6)) {
            p.pay(1, 1);
            p.sign(1);
            p.give(r.nextInt(nodes), 6);
        }
    }

    /** A block behind any stored one, with times and bits that need not be right. */
    private void fork() {
        Model.Nd nd = some();
        int back = r.nextInt(4);
        Model.Blk on = nd.tip;
        for (int i = 0; i < back && on.before != null; i++) on = on.before;
        int many = 1 + r.nextInt(5);
        for (int i = 0; i < many; i++) {
            int bits = rarely(20) ? 0x200FFF00 : Model.dueBehind(on);
            int time = Model.middleBehind(on) + (rarely(20) ? 0 : 1 + r.nextInt(2 * pace));
            byte[] body = Lab.reward(on.height + 1, 1 + r.nextInt(1000), r.nextInt(5));
            if (Model.target(bits).bitLength() < 246) return;
            byte[] raw = Lab.craft(on.hash, time, bits, body);
            feedAll(raw);
            int verdict = p.give(nd.number, 5);
            if (verdict != 0) return;
            on = nd.blocks.get(nd.blocks.size() - 1);
        }
    }

    /** A block with transactions that need not be right, put together by hand. */
    private void oddBlock() {
        int node = r.nextInt(nodes);
        draftTx(node);
        byte[] tx = p.m.tape;
        p.begin();
        p.pay(1 + r.nextInt(5000), 1);
        if (rarely(3)) p.pay(1, 2);
        p.sign(p.m.nodes[node].tip.height + 1);
        byte[] reward = p.m.tape;
        if (!p.m.nodes[node].up) return;
        int time = p.due(node, 1) + 1 + r.nextInt(pace);
        byte[] head = Model.join(p.m.nodes[node].tip.hash, new byte[32], Model.bytes(time), Model.bytes(p.due(node, 0)), new byte[8]);
        byte[] all = rarely(6) ? Model.join(head, new byte[] {2}, tx, reward)
            : rarely(4) ? Model.join(head, new byte[] {3}, reward, tx, tx) : Model.join(head, new byte[] {2}, reward, tx);
        feedAll(all);
        p.root();
        p.solve(r.nextInt(), 2000);
        p.judge(r.nextInt(nodes), 5);
        p.give(node, 5);
    }

    private void feedAll(byte[] all) {
        p.cut(p.house(5));
        int[] w = new int[5];
        for (int at = 0; at < all.length; at += 20) {
            for (int i = 0; i < 5; i++) {
                w[i] = 0;
                for (int j = 0; j < 4; j++) w[i] = w[i] << 8 | (at + 4 * i + j < all.length ? all[at + 4 * i + j] & 255 : 0);
            }
            p.feed(w[0], w[1], w[2], w[3], w[4]);
        }
        p.cut((20 - all.length % 20) % 20);
    }

    /** Blocks of one node come to another, the later ones perhaps before the earlier ones. */
    private void carry() {
        Model.Nd nd = some();
        int many = 1 + r.nextInt(10);
        for (int i = 0; i < many; i++) {
            p.take(nd.number, Math.max(0, nd.blocks.size() - 1 - r.nextInt(many)));
            if (rarely(8)) tamper();
            if (rarely(3)) p.post(nd.number, node(), 5);
            else p.give(r.nextInt(nodes), 5);
        }
    }

    /** A message of hashes or headers, of stored blocks or of none. */
    private void letter() {
        Model.Nd nd = some();
        int kind = 1 + r.nextInt(4);
        int many = rarely(10) ? 17 : 1 + r.nextInt(6);
        byte[] all = new byte[0];
        int from = r.nextInt(nd.blocks.size());
        for (int i = 0; i < many; i++) {
            Model.Blk b = nd.blocks.get(rarely(5) ? r.nextInt(nd.blocks.size()) : Math.min(nd.blocks.size() - 1, from + i));
            all = Model.join(all, kind == 3 ? b.header() : b.hash);
        }
        feedAll(all);
        if (rarely(8)) p.turn(r.nextInt(all.length), 1);
        if (rarely(8)) p.cut(1);
        p.post(nd.number, node(), rarely(20) ? odd() : kind);
    }

    private void mail() {
        int many = Math.max(1, p.house(2));
        switch (r.nextInt(4)) {
            case 0: p.lose(rarely(10) ? odd() : r.nextInt(many)); break;
            case 1: p.alter(r.nextInt(many), rarely(10) ? odd() : r.nextInt(32), odd()); break;
            case 2: p.message(odd(), odd()); break;
            default: p.messageByte(odd(), odd()); break;
        }
    }

    private void power() {
        int node = r.nextInt(nodes);
        switch (r.nextInt(8)) {
            case 0: p.down(node); break;
            case 1: p.fuse(node, rarely(3) ? -1 : r.nextInt(400)); break;
            case 2: p.poke(node, rarely(10) ? odd() : r.nextInt(Math.max(1, p.m.nodes[node].next)), odd()); break;
            default: p.up(node); break;
        }
    }

    private void odds() {
        switch (r.nextInt(16)) {
            case 0: p.turn(odd(), odd()); break;
            case 1: p.cut(odd()); break;
            case 2: p.hash(r.nextBoolean(), odd()); break;
            case 3: p.part(r.nextLong(), odd(), odd()); break;
            case 4: p.solve(r.nextLong(), odd()); break;
            case 5: p.judge(odd(), odd()); break;
            case 6: p.give(odd(), odd()); break;
            case 7: p.link(odd(), odd(), odd()); break;
            case 8: p.told(odd(), odd()); break;
            case 9: p.block(node(), odd(), odd()); break;
            case 10: p.limb(node(), odd(), odd()); break;
            case 11: p.at(node(), odd()); break;
            case 12: p.find(node(), some().tip.unspent.get(0).id(), odd()); break;
            case 13: p.balance(node(), r.nextInt(6)); break;
            case 14: p.due(odd(), odd()); break;
            default: p.pooled(node(), odd(), odd()); break;
        }
    }

    private void step() {
        int what = r.nextInt(100);
        if (what < 15) mine();
        else if (what < 25) fork();
        else if (what < 40) transaction();
        else if (what < 45) oddBlock();
        else if (what < 55) carry();
        else if (what < 62) letter();
        else if (what < 68) mail();
        else if (what < 73) power();
        else if (what < 83) odds();
        else if (what < 90) p.link(r.nextInt(nodes), r.nextInt(nodes), r.nextInt(10));
        else p.tick(rarely(10) ? odd() : 1 + r.nextInt(8));
    }

    private void go(int steps) {
        prepare();
        for (int i = 0; i < steps; i++) {
            step();
            if (i % 10 == 0) p.lookAround(false);
        }
        p.lookAround(true);
        p.tick(64);
        p.lookAround(false);
        for (int i = 0; i < nodes; i++) {
            p.down(i);
            p.up(i);
        }
        p.lookAround(true);
    }

    public static void main(String[] args) {
        long from = args.length > 0 ? Long.parseLong(args[0]) : 1;
        long to = args.length > 1 ? Long.parseLong(args[1]) : 12;
        for (long seed = from; seed <= to; seed++) new RandomRunsTest(seed).go(100);
        System.out.println(Pair.calls + " calls, " + Pair.wrong + " answers are not as due");
        if (Pair.wrong != 0) System.exit(1);
    }
}
