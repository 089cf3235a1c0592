import java.util.Arrays;

/**
 * A house of nodes that keep a chain of blocks by work: hashes, one-time signatures, a tree of
 * blocks on a disk, what is unspent, a pool, and messages between the nodes.
 */
public final class ChainHouse {
    public static final int BAD = -1, IS_DOWN = -2, FULL = -3, NO = -4;

    /** By what a block or a transaction is judged. */
    private static final int RIGHT = 0, FORM = 1, KNOWN = 2, WORK = 3, ROOT = 4, REWARD = 5, ORPHAN = 6,
            DUE = 7, TIME = 8, HEIGHT = 9, INPUT = 10, SIGNATURE = 11, AMOUNT = 12, TWICE = 13, PAY = 14,
            ROOM = 15, CLASH = 16;

    /** The KINDS of messages. */
    private static final int TOLD = 1, ASK = 2, HEADERS = 3, GET = 4, BLOCK = 5, TRANSACTION = 6;

    private static final int NODES_MOST = 6, NOBODY = -1, NONE = -1;
    private static final int TAPE_MOST = 4000, TRIES_IN_ALL = 200000, TRIES_A_CALL = 2000, NONCES = 1000000;
    private static final int HASH_BYTES = 32, HEADER_BYTES = 80, IN_A_MESSAGE = 16;
    private static final int ROOT_AT = 32, TIME_AT = 64, BITS_AT = 68, NONCE_AT = 72, COUNT_AT = 80, BODY_AT = 81;
    private static final int PUTS_MOST = 4, INPUT_BYTES = 73, OUTPUT_BYTES = 16, SIGNATURE_AT = 9, SIGNATURE_BYTES = 64;
    private static final int TRANSACTION_MOST = 2 + PUTS_MOST * (INPUT_BYTES + OUTPUT_BYTES);
    private static final int BODY_MOST = 8, BLOCK_MOST = BODY_AT + BODY_MOST * TRANSACTION_MOST;
    private static final int FIRST_BYTES = 103, FIRST_TIME = 1000;
    private static final int DISK_BYTES = 12288, RECORD_BYTES = 6;
    /** The FIRST block, and as many of the smallest RECORDS as a disk has room for. */
    private static final int BLOCKS_MOST = 1 + DISK_BYTES / (FIRST_BYTES + RECORD_BYTES);
    /** No disk has room for blocks that leave more than 313 unspent, a block that is judged adds 21. */
    private static final int COINS_MOST = 400;
    private static final int POOL_MOST = 16, CHOSEN_MOST = BODY_MOST - 1, LOST_MOST = 8, RIPE = 4;
    private static final int QUEUE_MOST = 200, QUEUE_BYTES = 40000, DELAY_MOST = 9, TICKS_MOST = 64, TELL_EVERY = 8;
    private static final int SPAN = 160, SPAN_LEAST = 40, SPAN_MOST = 640, DUE_EVERY = 16, TIMES_MOST = 11;
    private static final int SUBSIDY = 4096, HALVED_EVERY = 32;
    private static final long AMOUNT_MOST = 1L << 40, LOW_WORD = 0xFFFFFFFFL;

    private final Sha sha;
    private final Keys keys;
    private final Target target;
    private final Judge judge;
    private final Draft draft;
    private final Mail mail;
    private final Node[] nodes;
    private final byte[] tape;
    private int tapeLength;
    private int tries;
    /** What a node puts together to send it. */
    private final byte[] outbox;
    /** A POOL's TRANSACTIONS while it is made anew, and the chain of the old TIP by HEIGHTS. */
    private final Rows aside;
    private final int[] oldChain;

    public ChainHouse(int n) {
        int many = Math.max(1, Math.min(NODES_MOST, n));
        sha = new Sha();
        keys = new Keys(sha);
        target = new Target();
        judge = new Judge(sha, keys, target);
        draft = new Draft();
        mail = new Mail(many);
        nodes = new Node[many];
        tape = new byte[TAPE_MOST];
        tries = TRIES_IN_ALL;
        outbox = new byte[IN_A_MESSAGE * HEADER_BYTES];
        aside = new Rows(POOL_MOST, POOL_MOST * TRANSACTION_MOST);
        oldChain = new int[BLOCKS_MOST];
        byte[] first = new byte[FIRST_BYTES];
        makeFirst(first);
        for (int i = 0; i < many; i++) {
            nodes[i] = new Node(i, target);
            nodes[i].tree.add(first, FIRST_BYTES, judge.hash, judge.ids, NONE);
            nodes[i].forget();
        }
    }

    // ---- the tape

    public int feed(int a, int b, int c, int d, int e) {
        if (tapeLength > TAPE_MOST - 20) return FULL;
        Bytes.put(tape, tapeLength, a, 4);
        Bytes.put(tape, tapeLength + 4, b, 4);
        Bytes.put(tape, tapeLength + 8, c, 4);
        Bytes.put(tape, tapeLength + 12, d, 4);
        Bytes.put(tape, tapeLength + 16, e, 4);
        tapeLength += 20;
        return tapeLength;
    }

    public int cut(int n) {
        if (n < 0 || n > tapeLength) return BAD;
        tapeLength -= n;
        return tapeLength;
    }

    public int turn(int i, int b) {
        if (i < 0 || i >= tapeLength) return BAD;
        tape[i] ^= (byte) b;
        return tape[i] & 255;
    }

    public long hash(boolean twice, int k) {
        sha.digest(tape, 0, tapeLength);
        if (twice) sha.again();
        return sha.limbOf(k);
    }

    // ---- keys, the draft

    public long part(long seed, int i, int n) {
        return i < 0 || i > 7 || n < 0 || n > 15 ? 0 : keys.partBehind(seed, i, n);
    }

    public long address(long seed) {
        return keys.addressOf(seed);
    }

    public int begin() {
        int had = draft.inputs + draft.outputs;
        draft.inputs = 0;
        draft.outputs = 0;
        return had;
    }

    public int input(long id, int place, long seed) {
        return place < 0 || place >= PUTS_MOST ? BAD : draft.addInput(id, place, seed);
    }

    public int spend(int node, int i, long seed) {
        Node of = nodeOf(node);
        if (of == null) return BAD;
        if (!of.isUp) return IS_DOWN;
        if (i < 0 || i >= of.coins.count) return BAD;
        return draft.addInput(of.coins.id[i], of.coins.place[i], seed);
    }

    public int output(long amount, long address) {
        return draft.addOutput(amount, address);
    }

    public int pay(long amount, long seed) {
        return draft.addOutput(amount, keys.addressOf(seed));
    }

    public int sign(int height) {
        if (draft.outputs == 0 || draft.inputs == 0 && height < 0) return BAD;
        tapeLength = draft.write(tape, height);
        keys.readDigits(tape, 0, tapeLength);
        for (int i = 0; i < draft.inputs; i++) {
            keys.startFrom(draft.seeds[i]);
            keys.climb(Keys.NO_STEPS, keys.digits);
            keys.save(tape, 2 + i * INPUT_BYTES + SIGNATURE_AT);
        }
        return tapeLength;
    }

    // ---- blocks on the tape

    public int take(int node, int k) {
        Node of = nodeOf(node);
        if (of == null) return BAD;
        if (!of.isUp) return IS_DOWN;
        Rows rows = of.tree.rows;
        if (k < 0 || k >= rows.count) return BAD;
        tapeLength = rows.lengthOf(k);
        Bytes.copy(rows.bytes, rows.start[k], tape, 0, tapeLength);
        return tapeLength;
    }

    public int assemble(int node, long seed, int time) {
        Node of = nodeOf(node);
        if (of == null) return BAD;
        if (!of.isUp) return IS_DOWN;
        Tree tree = of.tree;
        if (time <= tree.middleTime(tree.tip)) return BAD;
        int height = tree.height[tree.tip] + 1;
        Bytes.copy(tree.hashes, HASH_BYTES * tree.tip, tape, 0, HASH_BYTES);
        Bytes.put(tape, TIME_AT, time, 4);
        Bytes.put(tape, BITS_AT, tree.dueBits(tree.tip), 4);
        Bytes.put(tape, NONCE_AT, 0, 8);
        int chosen = of.chooseGreatest();
        long fees = 0;
        int end = FIRST_BYTES;
        for (int i = 0; i < chosen; i++) {
            int k = of.chosen[i];
            Bytes.copy(of.pool.bytes, of.pool.start[k], tape, end, of.pool.lengthOf(k));
            end += of.pool.lengthOf(k);
            fees += of.fees[k];
        }
        tape[COUNT_AT] = (byte) (1 + chosen);
        Bytes.putReward(tape, BODY_AT, height, Judge.subsidyAt(height) + fees, keys.addressOf(seed));
        tapeLength = end;
        judge.putRoot(tape, tapeLength);
        return tapeLength;
    }

    public int root() {
        int changed = judge.putRoot(tape, tapeLength);
        return changed < 0 ? NO : changed;
    }

    public int solve(long nonce, int n) {
        if (n < 1 || n > TRIES_A_CALL || tapeLength < HEADER_BYTES) return BAD;
        int bits = (int) Bytes.number(tape, BITS_AT, 4);
        if (!Target.isRight(bits)) return BAD;
        if (n > tries) return FULL;
        target.load(bits);
        for (int t = 1; t <= n; t++) {
            tries--;
            if (meetsWith(tape, nonce + (t - 1))) return t;
        }
        return NO;
    }

    // ---- giving, sending

    public int judge(int node, int kind) {
        Node of = nodeOf(node);
        if (of == null || kind != BLOCK && kind != TRANSACTION) return BAD;
        if (!of.isUp) return IS_DOWN;
        return kind == BLOCK ? judge.ofBlock(of, tape, tapeLength, true)
                : judge.forPool(of, tape, 0, tapeLength, false);
    }

    public int give(int node, int kind) {
        Node of = nodeOf(node);
        if (of == null || kind != BLOCK && kind != TRANSACTION) return BAD;
        if (!of.isUp) return IS_DOWN;
        mail.hold(tape, 0, tapeLength);
        mail.from = NOBODY;
        tapeLength = 0;
        return kind == BLOCK ? takeBlock(of) : takeTransaction(of);
    }

    public int post(int from, int to, int kind) {
        if (nodeOf(from) == null || nodeOf(to) == null || from == to) return BAD;
        if (kind < TOLD || kind > TRANSACTION) return BAD;
        boolean sent = mail.send(from, to, kind, tape, 0, tapeLength);
        tapeLength = 0;
        return sent ? 1 : 0;
    }

    public int link(int a, int b, int delay) {
        if (nodeOf(a) == null || nodeOf(b) == null || a == b || delay < 0 || delay > DELAY_MOST) return BAD;
        int was = mail.delayOf(a, b);
        mail.setDelay(a, b, delay);
        return was;
    }

    public int tick(int n) {
        if (n < 1 || n > TICKS_MOST) return BAD;
        int received = 0;
        for (int t = 0; t < n; t++) {
            mail.now++;
            for (int k = 0; k < QUEUE_MOST; k++) {
                Node to = nextReceiver();
                if (to == null) break;
                received++;
                to.received++;
                int verdict = mail.kindNow == BLOCK ? takeBlock(to)
                        : mail.kindNow == TRANSACTION ? takeTransaction(to) : hear(to);
                if (verdict == FORM) to.refused++;
            }
            if (mail.now % TELL_EVERY == 0) tellTips();
        }
        return received;
    }

    public int message(int k, int what) {
        if (k < 0 || k >= mail.rows.count) return BAD;
        switch (what) {
            case 0: return mail.sender[k];
            case 1: return mail.receiver[k];
            case 2: return mail.kind[k];
            case 3: return mail.tick[k];
            case 4: return mail.rows.lengthOf(k);
            default: return BAD;
        }
    }

    public int messageByte(int k, int i) {
        int place = mail.rows.placeOf(k, i);
        return place < 0 ? BAD : Bytes.one(mail.rows.bytes, place);
    }

    public int alter(int k, int i, int b) {
        int place = mail.rows.placeOf(k, i);
        if (place < 0) return BAD;
        mail.rows.bytes[place] ^= (byte) b;
        return mail.rows.bytes[place] & 255;
    }

    public int lose(int k) {
        if (k < 0 || k >= mail.rows.count) return BAD;
        mail.remove(k);
        return mail.rows.count;
    }

    // ---- power, disks

    public int down(int node) {
        Node of = nodeOf(node);
        if (of == null) return BAD;
        if (!of.isUp) return IS_DOWN;
        of.isUp = false;
        return of.tree.rows.count;
    }

    public int up(int node) {
        Node of = nodeOf(node);
        if (of == null) return BAD;
        if (of.isUp) return NO;
        of.tree.backToFirst();
        of.next = 0;
        for (int k = 1; k < BLOCKS_MOST; k++) {
            if (!readRecord(of)) break;
        }
        of.forget();
        of.isUp = true;
        return of.tree.rows.count;
    }

    public int fuse(int node, int n) {
        Node of = nodeOf(node);
        if (of == null) return BAD;
        if (!of.isUp) return IS_DOWN;
        of.fuse = n < 0 ? NONE : n;
        return 0;
    }

    public int peek(int node, int i) {
        Node of = nodeOf(node);
        return of == null || i < 0 || i >= DISK_BYTES ? BAD : of.disk[i] & 255;
    }

    public int poke(int node, int i, int b) {
        Node of = nodeOf(node);
        if (of == null || i < 0 || i >= DISK_BYTES) return BAD;
        int was = of.disk[i] & 255;
        of.disk[i] = (byte) b;
        return was;
    }

    // ---- what there is

    public int told(int node, int what) {
        Node of = nodeOf(node);
        if (of == null || what < 0 || what > 10) return BAD;
        if (!of.isUp && what >= 1 && what <= 8) return NO;
        switch (what) {
            case 0: return of.isUp ? 1 : 0;
            case 1: return of.tree.rows.count;
            case 2: return of.tree.tip;
            case 3: return of.tree.height[of.tree.tip];
            case 4: return of.coins.count;
            case 5: return of.pool.count;
            case 6: return of.lost.count;
            case 7: return of.next;
            case 8: return of.fuse < 0 ? NO : of.fuse;
            case 9: return of.received;
            default: return of.refused;
        }
    }

    public int house(int what) {
        switch (what) {
            case 0: return nodes.length;
            case 1: return mail.now;
            case 2: return mail.rows.count;
            case 3: return mail.rows.start[mail.rows.count];
            case 4: return mail.gone;
            case 5: return tapeLength;
            case 6: return draft.inputs;
            case 7: return draft.outputs;
            case 8: return tries;
            default: return BAD;
        }
    }

    public int block(int node, int k, int what) {
        Node of = nodeOf(node);
        if (of == null || what < 0 || what > 6) return BAD;
        if (!of.isUp) return IS_DOWN;
        Tree tree = of.tree;
        if (k < 0 || k >= tree.rows.count) return BAD;
        switch (what) {
            case 0: return k == 0 ? NO : tree.before[k];
            case 1: return tree.height[k];
            case 2: return tree.time[k];
            case 3: return tree.bits[k];
            case 4: return Bytes.one(tree.rows.bytes, tree.rows.start[k] + COUNT_AT);
            case 5: return tree.rows.lengthOf(k);
            default: return tree.isOnChain(k) ? 1 : 0;
        }
    }

    public long limb(int node, int k, int what) {
        Node of = nodeOf(node);
        if (of == null || !of.isUp || k < 0 || k >= of.tree.rows.count || what < 0 || what > 12) return 0;
        Tree tree = of.tree;
        if (what < 4) return Bytes.number(tree.hashes, HASH_BYTES * k + 8 * what, 8);
        if (what < 8) return Target.limbOf(tree.totals, 8 * k + 2 * (what - 4));
        if (what == 12) return Bytes.number(tree.rows.bytes, tree.rows.start[k] + NONCE_AT, 8);
        target.load(tree.bits[k]);
        return Target.limbOf(target.words, 2 * (what - 8));
    }

    public int at(int node, int height) {
        Node of = nodeOf(node);
        if (of == null) return BAD;
        if (!of.isUp) return IS_DOWN;
        return height < 0 || height > of.tree.height[of.tree.tip] ? BAD : of.tree.chain[height];
    }

    public long unspent(int node, int i, int what) {
        Node of = nodeOf(node);
        if (of == null || !of.isUp || i < 0 || i >= of.coins.count) return 0;
        Coins coins = of.coins;
        switch (what) {
            case 0: return coins.id[i];
            case 1: return coins.place[i];
            case 2: return coins.amount[i];
            case 3: return coins.address[i];
            case 4: return coins.height[i];
            case 5: return coins.reward[i] ? 1 : 0;
            default: return 0;
        }
    }

    public int find(int node, long id, int place) {
        Node of = nodeOf(node);
        if (of == null) return BAD;
        if (!of.isUp) return IS_DOWN;
        int i = of.coins.indexOf(id, place);
        return i < 0 ? NO : i;
    }

    public long balance(int node, long seed) {
        Node of = nodeOf(node);
        if (of == null || !of.isUp) return 0;
        long address = keys.addressOf(seed);
        long sum = 0;
        for (int i = 0; i < of.coins.count; i++) {
            if (of.coins.address[i] == address) sum += of.coins.amount[i];
        }
        return sum;
    }

    public long pooled(int node, int i, int what) {
        Node of = nodeOf(node);
        if (of == null || !of.isUp || i < 0 || i >= of.pool.count) return 0;
        switch (what) {
            case 0:
                sha.digest(of.pool.bytes, of.pool.start[i], of.pool.lengthOf(i));
                return sha.limbOf(0);
            case 1: return of.fees[i];
            case 2: return of.pool.lengthOf(i);
            default: return 0;
        }
    }

    public int due(int node, int what) {
        Node of = nodeOf(node);
        if (of == null || what < 0 || what > 2) return BAD;
        if (!of.isUp) return IS_DOWN;
        Tree tree = of.tree;
        if (what == 0) return tree.dueBits(tree.tip);
        if (what == 1) return tree.middleTime(tree.tip);
        return Judge.subsidyAt(tree.height[tree.tip] + 1);
    }

    // ---- what the calls are made of

    private Node nodeOf(int node) {
        return node < 0 || node >= nodes.length ? null : nodes[node];
    }

    /** Leaves the FIRST block's HASH and its TRANSACTION's ID with the judge. */
    private void makeFirst(byte[] first) {
        Bytes.put(first, TIME_AT, FIRST_TIME, 4);
        Bytes.put(first, BITS_AT, Target.EASIEST, 4);
        first[COUNT_AT] = 1;
        Bytes.putReward(first, BODY_AT, 0, SUBSIDY, keys.addressOf(0));
        judge.putRoot(first, FIRST_BYTES);
        target.load(Target.EASIEST);
        for (int nonce = 0; nonce < NONCES; nonce++) {
            if (meetsWith(first, nonce)) break;
        }
        judge.works(first, 0);
    }

    /** Whether a header with this NONCE meets the target that is loaded. */
    private boolean meetsWith(byte[] header, long nonce) {
        Bytes.put(header, NONCE_AT, nonce, 8);
        sha.digest(header, 0, HEADER_BYTES);
        sha.again();
        return target.isMetBy(sha.value);
    }

    /** Fetches the next message of this TICK for a node that is UP; those for others are gone. */
    private Node nextReceiver() {
        for (int i = 0; i < QUEUE_MOST; i++) {
            int k = mail.firstNow();
            if (k < 0) return null;
            Node to = nodeOf(mail.receiver[k]);
            mail.fetch(k);
            if (to != null && to.isUp) return to;
            mail.gone++;
        }
        return null;
    }

    private int takeBlock(Node node) {
        int verdict = judge.ofBlock(node, mail.letter, mail.letterLength, true);
        if (verdict == ORPHAN) keepOrphan(node);
        if (verdict == RIGHT && !keep(node, 0)) return IS_DOWN;
        return verdict;
    }

    /**
     * STORES the letter's block, which has just been judged right, and the ORPHANS behind it;
     * false if the FUSE ended.
     */
    private boolean keep(Node node, int depth) {
        Tree tree = node.tree;
        int oldTip = tree.tip, number = tree.rows.count;
        int seal = judge.sealOf(mail.letter, mail.letterLength, node.next);
        if (!node.write(mail.letter, mail.letterLength, seal)) return false;
        tree.add(mail.letter, mail.letterLength, judge.hash, judge.ids, judge.before);
        if (tree.tip != oldTip) renewPool(node, oldTip);
        tell(node, tree.hashes, HASH_BYTES * number, HASH_BYTES, TOLD);
        for (int i = 0; i < LOST_MOST && depth < LOST_MOST; i++) {
            int k = node.lostBehind(number);
            if (k < 0) return true;
            // The letter itself is on the disk by now, its bytes serve for the orphan.
            mail.hold(node.lost.bytes, node.lost.start[k], node.lost.lengthOf(k));
            node.removeLost(k);
            int verdict = judge.ofBlock(node, mail.letter, mail.letterLength, true);
            if (verdict == RIGHT && !keep(node, depth + 1)) return false;
        }
        return true;
    }

    /** The letter's block, which has just been judged, becomes an ORPHAN, unless it is one already. */
    private void keepOrphan(Node node) {
        if (node.isLost(judge.hash)) return;
        if (node.lost.count == LOST_MOST) node.removeLost(0);
        node.addLost(mail.letter, mail.letterLength, judge.hash);
        sendAsk(node);
    }

    private void renewPool(Node node, int oldTip) {
        Tree tree = node.tree;
        node.coins.replay(tree, tree.tip);
        aside.clear();
        for (int k = 0; k < node.pool.count; k++) {
            aside.add(node.pool.bytes, node.pool.start[k], node.pool.lengthOf(k));
        }
        node.pool.clear();
        for (int k = 0; k < aside.count; k++) {
            judge.forPool(node, aside.bytes, aside.start[k], aside.lengthOf(k), true);
        }
        int top = tree.follow(oldTip, oldChain);
        for (int h = 0; h <= top; h++) {
            if (tree.isOnChain(oldChain[h])) continue;
            int at = tree.rows.start[oldChain[h]];
            int end = at + tree.rows.lengthOf(oldChain[h]);
            int many = Bytes.one(tree.rows.bytes, at + COUNT_AT);
            at += BODY_AT;
            for (int j = 0; j < many; j++) {
                int length = Bytes.transactionLength(tree.rows.bytes, at, end);
                if (j > 0) judge.forPool(node, tree.rows.bytes, at, length, true);
                at += length;
            }
        }
    }

    private int takeTransaction(Node node) {
        int verdict = judge.forPool(node, mail.letter, 0, mail.letterLength, true);
        if (verdict == RIGHT) tell(node, mail.letter, 0, mail.letterLength, TRANSACTION);
        return verdict;
    }

    /** Sends to all that a node is LINKED with, but the sender of what it has just received. */
    private void tell(Node node, byte[] b, int at, int length, int kind) {
        for (int to = 0; to < nodes.length; to++) {
            if (to == mail.from || mail.delayOf(node.number, to) == 0) continue;
            mail.send(node.number, to, kind, b, at, length);
        }
    }

    private void tellTips() {
        mail.from = NOBODY;
        for (int i = 0; i < nodes.length; i++) {
            Tree tree = nodes[i].tree;
            if (nodes[i].isUp) tell(nodes[i], tree.hashes, HASH_BYTES * tree.tip, HASH_BYTES, TOLD);
        }
    }

    /** What a message of HASHES or HEADERS brings about: FORM if it is refused. */
    private int hear(Node node) {
        int size = mail.kindNow == HEADERS ? HEADER_BYTES : HASH_BYTES;
        int many = mail.letterLength / size;
        if (many < 1 || many > IN_A_MESSAGE || many * size != mail.letterLength) return FORM;
        switch (mail.kindNow) {
            case TOLD: hearTold(node, many); break;
            case ASK: hearAsk(node, many); break;
            case HEADERS: hearHeaders(node, many); break;
            default: hearGet(node, many); break;
        }
        return RIGHT;
    }

    private void hearTold(Node node, int many) {
        for (int i = 0; i < many; i++) {
            if (node.tree.indexOf(mail.letter, HASH_BYTES * i) < 0) {
                sendAsk(node);
                return;
            }
        }
    }

    private void sendAsk(Node node) {
        Tree tree = node.tree;
        int height = tree.height[tree.tip], length = HASH_BYTES;
        Bytes.copy(tree.hashes, HASH_BYTES * tree.tip, outbox, 0, HASH_BYTES);
        int last = height;
        for (int i = 0; i < IN_A_MESSAGE - 2 && 1 << i <= height; i++) {
            last = height - (1 << i);
            Bytes.copy(tree.hashes, HASH_BYTES * tree.chain[last], outbox, length, HASH_BYTES);
            length += HASH_BYTES;
        }
        if (last != 0) {
            Bytes.copy(tree.hashes, 0, outbox, length, HASH_BYTES);
            length += HASH_BYTES;
        }
        mail.send(node.number, mail.from, ASK, outbox, 0, length);
    }

    private void hearAsk(Node node, int many) {
        Tree tree = node.tree;
        for (int i = 0; i < many; i++) {
            int k = tree.indexOf(mail.letter, HASH_BYTES * i);
            if (k < 0 || !tree.isOnChain(k)) continue;
            int from = tree.height[k] + 1;
            int to = Math.min(tree.height[tree.tip], tree.height[k] + IN_A_MESSAGE);
            for (int h = from; h <= to; h++) {
                int at = tree.rows.start[tree.chain[h]];
                Bytes.copy(tree.rows.bytes, at, outbox, HEADER_BYTES * (h - from), HEADER_BYTES);
            }
            if (from <= to) mail.send(node.number, mail.from, HEADERS, outbox, 0, HEADER_BYTES * (to - from + 1));
            return;
        }
    }

    private void hearHeaders(Node node, int many) {
        Tree tree = node.tree;
        int asked = 0;
        int last = NONE; // the number lent to the header before this one, if it is to be asked for
        for (int i = 0; i < many; i++) {
            int at = HEADER_BYTES * i;
            boolean works = judge.works(mail.letter, at);
            if (tree.indexOf(judge.hash, 0) >= 0) {
                last = NONE;
                continue;
            }
            int before = tree.indexOf(mail.letter, at);
            if (before < 0 && last >= 0 && Bytes.same(mail.letter, at, outbox, HASH_BYTES * (asked - 1), HASH_BYTES)) {
                before = last;
            }
            if (!works || before < 0 || !tree.lend(mail.letter, at, before, asked)) break;
            last = tree.rows.count + asked;
            Bytes.copy(judge.hash, 0, outbox, HASH_BYTES * asked, HASH_BYTES);
            asked++;
        }
        if (asked > 0) mail.send(node.number, mail.from, GET, outbox, 0, HASH_BYTES * asked);
    }

    private void hearGet(Node node, int many) {
        Rows rows = node.tree.rows;
        for (int i = 0; i < many; i++) {
            int k = node.tree.indexOf(mail.letter, HASH_BYTES * i);
            if (k >= 0) mail.send(node.number, mail.from, BLOCK, rows.bytes, rows.start[k], rows.lengthOf(k));
        }
    }

    /** Reads the RECORD at a node's next place; false if it is none. */
    private boolean readRecord(Node node) {
        int length = (int) Bytes.number(node.disk, node.next, 2);
        int end = node.next + length + RECORD_BYTES;
        // No longer block has the form of one.
        if (length == 0 || length > BLOCK_MOST || end > DISK_BYTES) return false;
        mail.hold(node.disk, node.next + 2, length);
        int seal = (int) Bytes.number(node.disk, end - 4, 4);
        if (seal != judge.sealOf(mail.letter, length, node.next)) return false;
        if (judge.ofBlock(node, mail.letter, length, false) != RIGHT) return false;
        node.tree.add(mail.letter, length, judge.hash, judge.ids, judge.before);
        node.next = end;
        return true;
    }

    /** Numbers, transactions and blocks as bytes, the highest byte of a number first. */
    private static final class Bytes {
        static int one(byte[] b, int i) {
            return i < 0 || i >= b.length ? 0 : b[i] & 255;
        }

        static long number(byte[] b, int at, int many) {
            if (at < 0 || at > b.length - many) return 0;
            long v = 0;
            for (int i = 0; i < many; i++) v = v << 8 | b[at + i] & 255;
            return v;
        }

        static void put(byte[] b, int at, long number, int many) {
            if (at < 0 || at > b.length - many) return;
            long rest = number;
            for (int i = many - 1; i >= 0; i--) {
                b[at + i] = (byte) rest;
                rest >>= 8;
            }
        }

        static boolean same(byte[] a, int from, byte[] b, int at, int many) {
            if (from < 0 || from > a.length - many || at < 0 || at > b.length - many) return false;
            for (int i = 0; i < many; i++) {
                if (a[from + i] != b[at + i]) return false;
            }
            return true;
        }

        static void copy(byte[] a, int from, byte[] b, int at, int many) {
            if (many < 0 || from < 0 || from > a.length - many || at < 0 || at > b.length - many) return;
            System.arraycopy(a, from, b, at, many);
        }

        /** How many bytes the transaction has that begins at a place and ends by another; 0: there is none. */
        static int transactionLength(byte[] b, int at, int end) {
            if (at < 0 || end > b.length || end - at < 2) return 0;
            int inputs = b[at] & 255, outputs = b[at + 1] & 255;
            if (inputs > PUTS_MOST || outputs < 1 || outputs > PUTS_MOST) return 0;
            int length = 2 + (inputs == 0 ? 4 : inputs * INPUT_BYTES) + outputs * OUTPUT_BYTES;
            if (length > end - at || inputs == 0 && b[at + 2] < 0) return 0;
            for (int i = 0; i < inputs; i++) {
                if ((b[at + 2 + i * INPUT_BYTES + 8] & 255) >= PUTS_MOST) return 0;
            }
            return length;
        }

        /** How many transactions a block of just these bytes has, and where they start; 0: it is no block. */
        static int blockStarts(byte[] b, int length, int[] starts) {
            if (length < BODY_AT || length > b.length || b[TIME_AT] < 0) return 0;
            int many = b[COUNT_AT] & 255;
            if (many < 1 || many > BODY_MOST || starts.length <= many) return 0;
            int at = BODY_AT;
            for (int j = 0; j < many; j++) {
                starts[j] = at;
                int bytes = transactionLength(b, at, length);
                if (bytes == 0) return 0;
                at += bytes;
            }
            starts[many] = at;
            return at == length ? many : 0;
        }

        static int inputAt(int at, int i) {
            return at + 2 + i * INPUT_BYTES;
        }

        static int outputAt(int at, int inputs, int i) {
            return at + 2 + (inputs == 0 ? 4 : inputs * INPUT_BYTES) + i * OUTPUT_BYTES;
        }

        /** All amounts of a transaction's outputs; -1 if one is not as it may be. */
        static long paidBy(byte[] b, int at) {
            long sum = 0;
            int inputs = one(b, at), outputs = one(b, at + 1);
            for (int i = 0; i < outputs; i++) {
                long amount = number(b, outputAt(at, inputs, i), 8);
                if (amount < 1 || amount > AMOUNT_MOST) return -1;
                sum += amount;
            }
            return sum;
        }

        static void putReward(byte[] b, int at, int height, long amount, long address) {
            put(b, at, 1, 2);
            put(b, at + 2, height, 4);
            put(b, at + 6, amount, 8);
            put(b, at + 14, address, 8);
        }
    }

    /** SHA-256. */
    private static final class Sha {
        private static final int[] START = {
            0x6a09e667, 0xbb67ae85, 0x3c6ef372, 0xa54ff53a, 0x510e527f, 0x9b05688c, 0x1f83d9ab, 0x5be0cd19,
        };
        private static final int[] K = {
            0x428a2f98, 0x71374491, 0xb5c0fbcf, 0xe9b5dba5, 0x3956c25b, 0x59f111f1, 0x923f82a4, 0xab1c5ed5,
            0xd807aa98, 0x12835b01, 0x243185be, 0x550c7dc3, 0x72be5d74, 0x80deb1fe, 0x9bdc06a7, 0xc19bf174,
            0xe49b69c1, 0xefbe4786, 0x0fc19dc6, 0x240ca1cc, 0x2de92c6f, 0x4a7484aa, 0x5cb0a9dc, 0x76f988da,
            0x983e5152, 0xa831c66d, 0xb00327c8, 0xbf597fc7, 0xc6e00bf3, 0xd5a79147, 0x06ca6351, 0x14292967,
            0x27b70a85, 0x2e1b2138, 0x4d2c6dfc, 0x53380d13, 0x650a7354, 0x766a0abb, 0x81c2c92e, 0x92722c85,
            0xa2bfe8a1, 0xa81a664b, 0xc24b8b70, 0xc76c51a3, 0xd192e819, 0xd6990624, 0xf40e3585, 0x106aa070,
            0x19a4c116, 0x1e376c08, 0x2748774c, 0x34b0bcb5, 0x391c0cb3, 0x4ed8aa4a, 0x5b9cca4f, 0x682e6ff3,
            0x748f82ee, 0x78a5636f, 0x84c87814, 0x8cc70208, 0x90befffa, 0xa4506ceb, 0xbef9a3f7, 0xc67178f2,
        };

        /** The last hash that was made. */
        final int[] value = new int[8];
        private final int[] w = new int[64];
        private final byte[] own = new byte[HASH_BYTES];

        /** All in one method: it stands at the end of the deepest calls. */
        void digest(byte[] b, int at, int length) {
            if (at < 0 || length < 0 || at > b.length - length) return;
            for (int i = 0; i < 8; i++) value[i] = START[i];
            for (int from = 0; from < length + 9; from += 64) {
                for (int i = 0; i < 16; i++) {
                    int word = 0;
                    for (int p = from + 4 * i; p < from + 4 * i + 4; p++) {
                        word = word << 8 | (p < length ? b[at + p] & 255 : p == length ? 128 : 0);
                    }
                    w[i] = word;
                }
                if (from + 64 >= length + 9) {
                    w[14] = length >>> 29;
                    w[15] = length << 3;
                }
                for (int i = 16; i < 64; i++) {
                    int x = w[i - 15], y = w[i - 2];
                    w[i] = w[i - 16] + w[i - 7]
                            + ((x >>> 7 | x << 25) ^ (x >>> 18 | x << 14) ^ x >>> 3)
                            + ((y >>> 17 | y << 15) ^ (y >>> 19 | y << 13) ^ y >>> 10);
                }
                int a = value[0], bb = value[1], c = value[2], d = value[3];
                int e = value[4], f = value[5], g = value[6], h = value[7];
                for (int i = 0; i < 64; i++) {
                    int t = h + ((e >>> 6 | e << 26) ^ (e >>> 11 | e << 21) ^ (e >>> 25 | e << 7))
                            + (e & f ^ ~e & g) + K[i] + w[i];
                    int u = ((a >>> 2 | a << 30) ^ (a >>> 13 | a << 19) ^ (a >>> 22 | a << 10))
                            + (a & bb ^ a & c ^ bb & c);
                    h = g;
                    g = f;
                    f = e;
                    e = d + t;
                    d = c;
                    c = bb;
                    bb = a;
                    a = t + u;
                }
                value[0] += a;
                value[1] += bb;
                value[2] += c;
                value[3] += d;
                value[4] += e;
                value[5] += f;
                value[6] += g;
                value[7] += h;
            }
        }

        /** The hash of the last hash. */
        void again() {
            writeTo(own, 0);
            digest(own, 0, HASH_BYTES);
        }

        void writeTo(byte[] b, int at) {
            for (int i = 0; i < 8; i++) Bytes.put(b, at + 4 * i, value[i], 4);
        }

        long limbOf(int k) {
            return k < 0 || k > 3 ? 0 : (long) value[2 * k] << 32 | value[2 * k + 1] & LOW_WORD;
        }
    }

    /** Keys of eight parts, and the signatures made of them. */
    private static final class Keys {
        static final int[] NO_STEPS = {0, 0, 0, 0, 0, 0, 0, 0};
        static final int[] ALL_STEPS = {15, 15, 15, 15, 15, 15, 15, 15};

        private final Sha sha;
        private final long[] parts = new long[8];
        /** The digits of what was last read. */
        final int[] digits = new int[8];
        private final int[] stops = new int[8];
        private final byte[] link = new byte[10];
        private final byte[] ends = new byte[SIGNATURE_BYTES];
        private final byte[] bare = new byte[TRANSACTION_MOST];

        Keys(Sha sha) {
            this.sha = sha;
        }

        void startFrom(long seed) {
            for (int i = 0; i < 8; i++) {
                Bytes.put(link, 0, seed, 8);
                link[8] = (byte) i;
                sha.digest(link, 0, 9);
                parts[i] = sha.limbOf(0);
            }
        }

        /** Each part goes its steps from one number up to another. */
        void climb(int[] from, int[] to) {
            for (int i = 0; i < 8 && i < from.length && i < to.length; i++) {
                for (int j = from[i]; j < to[i] && j < 15; j++) {
                    Bytes.put(link, 0, parts[i], 8);
                    link[8] = (byte) i;
                    link[9] = (byte) (16 + j);
                    sha.digest(link, 0, 10);
                    parts[i] = sha.limbOf(0);
                }
            }
        }

        long partBehind(long seed, int i, int n) {
            if (i < 0 || i >= 8) return 0;
            Arrays.fill(stops, 0);
            stops[i] = n;
            startFrom(seed);
            climb(NO_STEPS, stops);
            return parts[i];
        }

        long addressOf(long seed) {
            startFrom(seed);
            climb(NO_STEPS, ALL_STEPS);
            return addressOfEnds();
        }

        /** The address, if the parts are ends. */
        long addressOfEnds() {
            for (int i = 0; i < 8; i++) Bytes.put(ends, 8 * i, parts[i], 8);
            sha.digest(ends, 0, SIGNATURE_BYTES);
            return sha.limbOf(0);
        }

        void load(byte[] b, int at) {
            for (int i = 0; i < 8; i++) parts[i] = Bytes.number(b, at + 8 * i, 8);
        }

        void save(byte[] b, int at) {
            for (int i = 0; i < 8; i++) Bytes.put(b, at + 8 * i, parts[i], 8);
        }

        /** The digits of what a transaction's signatures are of. */
        void readDigits(byte[] b, int at, int length) {
            if (length < 1 || length > bare.length || at < 0 || at > b.length - length) return;
            System.arraycopy(b, at, bare, 0, length);
            int inputs = Math.min(PUTS_MOST, bare[0] & 255);
            for (int i = 0; i < inputs; i++) {
                int from = Bytes.inputAt(0, i) + SIGNATURE_AT;
                Arrays.fill(bare, from, from + SIGNATURE_BYTES, (byte) 0);
            }
            sha.digest(bare, 0, length);
            int rest = 0;
            for (int i = 0; i < 6; i++) {
                digits[i] = sha.value[0] >>> 28 - 4 * i & 15;
                rest += 15 - digits[i];
            }
            digits[6] = rest / 16;
            digits[7] = rest % 16;
        }
    }

    /** A number of 256 bits in words, the highest first. */
    private static final class Target {
        static final int EASIEST = 0x200FFFFF;
        private static final int EASIEST_WORD = 0x0FFFFF00, MANTISSA_LEAST = 32768, MANTISSA_MOST = 8388607;

        final int[] words = new int[8];
        private final int[] divisor = new int[8];
        private final int[] rest = new int[8];
        /** The work of the bits below, for most blocks have those of the one before. */
        final int[] work = new int[8];
        private int workBits;

        static boolean isRight(int bits) {
            int e = bits >>> 24, m = bits & 0xFFFFFF;
            return e >= 4 && e <= 32 && m >= MANTISSA_LEAST && m <= (e == 32 ? EASIEST & 0xFFFFFF : MANTISSA_MOST);
        }

        static long limbOf(int[] words, int i) {
            return i < 0 || i > words.length - 2 ? 0 : (long) words[i] << 32 | words[i + 1] & LOW_WORD;
        }

        /** Below 0, 0, or above 0, as a number of eight words is less than another, the same, or more. */
        static int compareWords(int[] a, int from, int[] b, int at) {
            if (from < 0 || from > a.length - 8 || at < 0 || at > b.length - 8) return 0;
            for (int i = 0; i < 8; i++) {
                long x = a[from + i] & LOW_WORD, y = b[at + i] & LOW_WORD;
                if (x != y) return x < y ? -1 : 1;
            }
            return 0;
        }

        void load(int bits) {
            Arrays.fill(words, 0);
            int first = 32 - (bits >>> 24);
            for (int i = 0; i < 3; i++) putByte(first + i, bits >>> 16 - 8 * i & 255);
        }

        private void putByte(int i, int b) {
            if (i >= 0 && i < 32) words[i / 4] |= b << 24 - 8 * (i % 4);
        }

        private int byteOf(int i) {
            return i < 0 || i >= 32 ? 0 : words[i / 4] >>> 24 - 8 * (i % 4) & 255;
        }

        boolean isMetBy(int[] hash) {
            return compareWords(hash, 0, words, 0) <= 0;
        }

        /** Times a span, by that which is due, but never above the easiest one. */
        void scale(int span) {
            long carry = 0;
            for (int i = 7; i >= 0; i--) {
                carry += (words[i] & LOW_WORD) * span;
                words[i] = (int) carry;
                carry >>>= 32;
            }
            for (int i = 0; i < 8; i++) {
                carry = carry << 32 | words[i] & LOW_WORD;
                words[i] = (int) (carry / SPAN);
                carry %= SPAN;
            }
            if ((words[0] & LOW_WORD) >= EASIEST_WORD) load(EASIEST);
        }

        int toBits() {
            int first = 0;
            while (first < 29 && byteOf(first) == 0) first++;
            int e = 32 - first;
            int m = byteOf(first) << 16 | byteOf(first + 1) << 8 | byteOf(first + 2);
            return m <= MANTISSA_MOST ? e << 24 | m : e + 1 << 24 | m >>> 8;
        }

        /** 2^256 by one more than a target, bit by bit. */
        void makeWork(int bits) {
            if (bits == workBits) return;
            workBits = bits;
            load(bits);
            long carry = 1;
            for (int i = 7; i >= 0; i--) {
                carry += words[i] & LOW_WORD;
                divisor[i] = (int) carry;
                carry >>>= 32;
            }
            Arrays.fill(work, 0);
            Arrays.fill(rest, 0);
            rest[7] = 1;
            for (int bit = 0; bit < 256; bit++) {
                twice(rest);
                twice(work);
                if (compareWords(rest, 0, divisor, 0) >= 0) {
                    lessen();
                    work[7] |= 1;
                }
            }
        }

        private static void twice(int[] a) {
            for (int i = 0; i < a.length; i++) {
                a[i] = a[i] << 1 | (i + 1 < a.length ? a[i + 1] >>> 31 : 0);
            }
        }

        private void lessen() {
            long borrow = 0;
            for (int i = 7; i >= 0; i--) {
                borrow += (rest[i] & LOW_WORD) - (divisor[i] & LOW_WORD);
                rest[i] = (int) borrow;
                borrow >>= 32;
            }
        }
    }

    /** Rows of bytes, one behind the other. */
    private static final class Rows {
        final byte[] bytes;
        /** Where each row starts, and behind the last one where the next would. */
        final int[] start;
        int count;

        Rows(int most, int room) {
            bytes = new byte[room];
            start = new int[most + 1];
        }

        int lengthOf(int k) {
            return k < 0 || k >= count ? 0 : start[k + 1] - start[k];
        }

        /** Where byte i of row k stands, or NONE. */
        int placeOf(int k, int i) {
            return i < 0 || i >= lengthOf(k) ? NONE : start[k] + i;
        }

        boolean add(byte[] b, int at, int length) {
            if (length < 0 || at < 0 || at > b.length - length) return false;
            if (count >= start.length - 1 || start[count] > bytes.length - length) return false;
            System.arraycopy(b, at, bytes, start[count], length);
            start[count + 1] = start[count] + length;
            count++;
            return true;
        }

        void remove(int k) {
            if (k < 0 || k >= count) return;
            int length = lengthOf(k);
            System.arraycopy(bytes, start[k + 1], bytes, start[k], start[count] - start[k + 1]);
            for (int i = k + 1; i < count; i++) start[i] = start[i + 1] - length;
            count--;
        }

        void clear() {
            count = 0;
        }
    }

    /** Outputs that are unspent, in the order in which they came. */
    private static final class Coins {
        final long[] id = new long[COINS_MOST];
        final int[] place = new int[COINS_MOST];
        final long[] amount = new long[COINS_MOST];
        final long[] address = new long[COINS_MOST];
        final int[] height = new int[COINS_MOST];
        final boolean[] reward = new boolean[COINS_MOST];
        int count;
        private final int[] line = new int[BLOCKS_MOST];

        int indexOf(long wanted, int at) {
            for (int i = 0; i < count; i++) {
                if (id[i] == wanted && place[i] == at) return i;
            }
            return NONE;
        }

        boolean holds(long wanted) {
            for (int i = 0; i < count; i++) {
                if (id[i] == wanted) return true;
            }
            return false;
        }

        private void remove(int k) {
            if (k < 0 || k >= count) return;
            count--;
            System.arraycopy(id, k + 1, id, k, count - k);
            System.arraycopy(place, k + 1, place, k, count - k);
            System.arraycopy(amount, k + 1, amount, k, count - k);
            System.arraycopy(address, k + 1, address, k, count - k);
            System.arraycopy(height, k + 1, height, k, count - k);
            System.arraycopy(reward, k + 1, reward, k, count - k);
        }

        /** What a transaction spends goes, then its outputs come. */
        void apply(byte[] b, int at, long known, int blockHeight) {
            int inputs = Bytes.one(b, at), outputs = Bytes.one(b, at + 1);
            for (int i = 0; i < inputs; i++) {
                int from = Bytes.inputAt(at, i);
                remove(indexOf(Bytes.number(b, from, 8), Bytes.one(b, from + 8)));
            }
            for (int i = 0; i < outputs && count < COINS_MOST; i++) {
                int from = Bytes.outputAt(at, inputs, i);
                id[count] = known;
                place[count] = i;
                amount[count] = Bytes.number(b, from, 8);
                address[count] = Bytes.number(b, from + 8, 8);
                height[count] = blockHeight;
                reward[count] = inputs == 0;
                count++;
            }
        }

        /** Becomes what is unspent behind a block. */
        void replay(Tree tree, int block) {
            count = 0;
            int top = tree.follow(block, line);
            byte[] b = tree.rows.bytes;
            for (int h = 0; h <= top; h++) {
                int k = line[h], at = tree.rows.start[k], end = tree.rows.start[k + 1];
                int many = Math.min(BODY_MOST, Bytes.one(b, at + COUNT_AT));
                at += BODY_AT;
                for (int j = 0; j < many; j++) {
                    apply(b, at, tree.ids[BODY_MOST * k + j], h);
                    at += Bytes.transactionLength(b, at, end);
                }
            }
        }
    }

    /** The blocks that a node has stored; behind them headers may be lent numbers for a while. */
    private static final class Tree {
        final Rows rows = new Rows(BLOCKS_MOST, FIRST_BYTES + DISK_BYTES);
        final byte[] hashes = new byte[HASH_BYTES * BLOCKS_MOST];
        final int[] before = new int[BLOCKS_MOST + IN_A_MESSAGE];
        final int[] height = new int[BLOCKS_MOST + IN_A_MESSAGE];
        final int[] time = new int[BLOCKS_MOST + IN_A_MESSAGE];
        final int[] bits = new int[BLOCKS_MOST + IN_A_MESSAGE];
        /** Of each block eight words. */
        final int[] totals = new int[8 * BLOCKS_MOST];
        /** Of each block the IDs of its transactions. */
        final long[] ids = new long[BODY_MOST * BLOCKS_MOST];
        int tip;
        /** The tip's chain, by heights. */
        final int[] chain = new int[BLOCKS_MOST];
        private final int[] times = new int[TIMES_MOST];
        private final Target target;

        Tree(Target target) {
            this.target = target;
        }

        void backToFirst() {
            rows.count = Math.min(1, rows.count);
            tip = 0;
            chain[0] = 0;
        }

        int indexOf(byte[] b, int at) {
            for (int k = 0; k < rows.count; k++) {
                if (Bytes.same(hashes, HASH_BYTES * k, b, at, HASH_BYTES)) return k;
            }
            return NONE;
        }

        boolean isOnChain(int k) {
            return k >= 0 && k < rows.count && height[k] <= height[tip] && chain[height[k]] == k;
        }

        /** Writes down the blocks up to one by heights, and answers its height. */
        int follow(int block, int[] line) {
            if (block < 0 || block >= rows.count || height[block] >= line.length) return NONE;
            int k = block;
            for (int h = height[block]; h >= 0 && k >= 0; h--) {
                line[h] = k;
                k = before[k];
            }
            return height[block];
        }

        /** Stores a block that is right behind the one before. */
        void add(byte[] b, int length, byte[] hash, long[] itsIds, int behind) {
            int k = rows.count;
            if (behind >= k || itsIds.length < BODY_MOST || !rows.add(b, 0, length)) return;
            Bytes.copy(hash, 0, hashes, HASH_BYTES * k, HASH_BYTES);
            System.arraycopy(itsIds, 0, ids, BODY_MOST * k, BODY_MOST);
            note(k, behind, b, 0);
            target.makeWork(bits[k]);
            long carry = 0;
            for (int i = 7; i >= 0; i--) {
                carry += (target.work[i] & LOW_WORD) + (behind < 0 ? 0 : totals[8 * behind + i] & LOW_WORD);
                totals[8 * k + i] = (int) carry;
                carry >>>= 32;
            }
            if (Target.compareWords(totals, 8 * k, totals, 8 * tip) > 0) {
                tip = k;
                follow(k, chain);
            }
        }

        /** Lends a header a number behind the stored blocks; false if its bits or its time are wrong. */
        boolean lend(byte[] b, int at, int behind, int i) {
            int k = rows.count + i;
            if (behind < 0 || behind >= k || i < 0 || i >= IN_A_MESSAGE) return false;
            note(k, behind, b, at);
            return time[k] > middleTime(behind) && bits[k] == dueBits(behind);
        }

        private void note(int k, int behind, byte[] b, int at) {
            if (k < 0 || k >= before.length || behind >= k) return;
            before[k] = behind;
            height[k] = behind < 0 ? 0 : height[behind] + 1;
            time[k] = (int) Bytes.number(b, at + TIME_AT, 4);
            bits[k] = (int) Bytes.number(b, at + BITS_AT, 4);
        }

        int middleTime(int block) {
            if (block >= time.length) return 0;
            int many = 0;
            for (int k = block; k >= 0 && many < TIMES_MOST; k = before[k]) {
                int i = many;
                while (i > 0 && times[i - 1] > time[k]) {
                    times[i] = times[i - 1];
                    i--;
                }
                times[i] = time[k];
                many++;
            }
            return times[many / 2];
        }

        int dueBits(int block) {
            if (block < 0 || block >= bits.length) return 0;
            if ((height[block] + 1) % DUE_EVERY != 0) return bits[block];
            int k = block;
            for (int i = 1; i < DUE_EVERY && before[k] >= 0; i++) k = before[k];
            target.load(bits[block]);
            target.scale(Math.max(SPAN_LEAST, Math.min(SPAN_MOST, time[block] - time[k])));
            return target.toBits();
        }
    }

    /** Judges blocks and transactions. */
    private static final class Judge {
        private final Sha sha;
        private final Keys keys;
        private final Target target;
        /** What is unspent behind the transactions of a block that were judged already. */
        private final Coins coins = new Coins();
        private final int[] starts = new int[BODY_MOST + 1];
        private final byte[] row = new byte[BODY_MOST * HASH_BYTES];
        private final byte[] sealed = new byte[2 + BLOCK_MOST];
        /** Of the block that was judged last: its hash, its transactions' IDs, the one before it. */
        final byte[] hash = new byte[HASH_BYTES];
        final long[] ids = new long[BODY_MOST];
        int before;
        /** What is left of the last transaction that was right. */
        private long fee;

        Judge(Sha sha, Keys keys, Target target) {
            this.sha = sha;
            this.keys = keys;
            this.target = target;
        }

        static int subsidyAt(int height) {
            int halvings = height / HALVED_EVERY;
            return halvings < 0 || halvings > 12 ? 0 : SUBSIDY >> halvings;
        }

        /** Makes a header's hash, and tells whether its bits are right and the hash meets them. */
        boolean works(byte[] b, int at) {
            sha.digest(b, at, HEADER_BYTES);
            sha.again();
            sha.writeTo(hash, 0);
            int bits = (int) Bytes.number(b, at + BITS_AT, 4);
            target.load(bits);
            return Target.isRight(bits) && target.isMetBy(sha.value);
        }

        int ofBlock(Node node, byte[] b, int length, boolean onDisk) {
            Tree tree = node.tree;
            int many = Bytes.blockStarts(b, length, starts);
            if (many == 0) return FORM;
            boolean works = works(b, 0);
            if (tree.indexOf(hash, 0) >= 0) return KNOWN;
            if (!works) return WORK;
            makeRoot(b, many);
            if (!Bytes.same(row, 0, b, ROOT_AT, HASH_BYTES)) return ROOT;
            for (int j = 0; j < many; j++) {
                if ((Bytes.one(b, starts[j]) == 0) != (j == 0)) return REWARD;
            }
            before = tree.indexOf(b, 0);
            if (before < 0) return ORPHAN;
            if ((int) Bytes.number(b, BITS_AT, 4) != tree.dueBits(before)) return DUE;
            if ((int) Bytes.number(b, TIME_AT, 4) <= tree.middleTime(before)) return TIME;
            int height = tree.height[before] + 1;
            if ((int) Bytes.number(b, starts[0] + 2, 4) != height) return HEIGHT;
            coins.replay(tree, before);
            int verdict = ofTransactions(b, many, height);
            return verdict == RIGHT && onDisk && !node.hasRoomFor(length) ? ROOM : verdict;
        }

        private int ofTransactions(byte[] b, int many, int height) {
            long allowed = subsidyAt(height);
            for (int j = 1; j < many && j < BODY_MOST; j++) {
                int verdict = ofTransaction(coins, b, starts[j], starts[j + 1] - starts[j], ids[j], height);
                if (verdict != RIGHT) return verdict;
                if (ids[j] == ids[0]) return TWICE;
                allowed += fee;
                coins.apply(b, starts[j], ids[j], height);
            }
            long paid = Bytes.paidBy(b, starts[0]);
            if (paid < 0 || paid > allowed) return PAY;
            return coins.holds(ids[0]) ? TWICE : RIGHT;
        }

        private int ofTransaction(Coins behind, byte[] b, int at, int length, long id, int height) {
            int inputs = Bytes.one(b, at);
            long brought = 0;
            keys.readDigits(b, at, length);
            for (int i = 0; i < inputs; i++) {
                int from = Bytes.inputAt(at, i);
                int c = behind.indexOf(Bytes.number(b, from, 8), Bytes.one(b, from + 8));
                if (c < 0 || hasInput(b, at, i, b, from)) return INPUT;
                if (behind.reward[c] && behind.height[c] > height - RIPE) return INPUT;
                keys.load(b, from + SIGNATURE_AT);
                keys.climb(keys.digits, Keys.ALL_STEPS);
                if (keys.addressOfEnds() != behind.address[c]) return SIGNATURE;
                brought += behind.amount[c];
            }
            long paid = Bytes.paidBy(b, at);
            if (paid < 0 || paid > brought) return AMOUNT;
            fee = brought - paid;
            return behind.holds(id) ? TWICE : RIGHT;
        }

        /** Whether one of the first inputs of a transaction is what an input, elsewhere, is. */
        private static boolean hasInput(byte[] b, int at, int many, byte[] other, int from) {
            for (int i = 0; i < many; i++) {
                if (Bytes.same(b, Bytes.inputAt(at, i), other, from, SIGNATURE_AT)) return true;
            }
            return false;
        }

        /** Judges a transaction for a node's pool; if it is right and wished, it is taken. */
        int forPool(Node node, byte[] b, int at, int length, boolean wished) {
            Rows pool = node.pool;
            if (length == 0 || Bytes.transactionLength(b, at, at + length) != length) return FORM;
            for (int k = 0; k < pool.count; k++) {
                if (pool.lengthOf(k) == length && Bytes.same(pool.bytes, pool.start[k], b, at, length)) return KNOWN;
            }
            if (Bytes.one(b, at) == 0) return REWARD;
            sha.digest(b, at, length);
            int height = node.tree.height[node.tree.tip] + 1;
            int verdict = ofTransaction(node.coins, b, at, length, sha.limbOf(0), height);
            if (verdict != RIGHT) return verdict;
            if (clashes(pool, b, at)) return CLASH;
            if (pool.count >= POOL_MOST) return ROOM;
            if (wished) {
                node.fees[pool.count] = fee;
                pool.add(b, at, length);
            }
            return RIGHT;
        }

        private static boolean clashes(Rows pool, byte[] b, int at) {
            int inputs = Bytes.one(b, at);
            for (int k = 0; k < pool.count; k++) {
                int from = pool.start[k];
                for (int i = 0; i < inputs; i++) {
                    if (hasInput(pool.bytes, from, Bytes.one(pool.bytes, from), b, Bytes.inputAt(at, i))) return true;
                }
            }
            return false;
        }

        /** The root comes to stand at the beginning of the row, the IDs in their place. */
        private void makeRoot(byte[] b, int many) {
            for (int j = 0; j < many && j < BODY_MOST; j++) {
                sha.digest(b, starts[j], starts[j + 1] - starts[j]);
                ids[j] = sha.limbOf(0);
                sha.again();
                sha.writeTo(row, HASH_BYTES * j);
            }
            for (int left = many; left > 1; left = (left + 1) / 2) {
                for (int j = 0; j < left; j += 2) {
                    if (j + 1 < left) {
                        sha.digest(row, HASH_BYTES * j, 2 * HASH_BYTES);
                        sha.again();
                        sha.writeTo(row, HASH_BYTES * (j / 2));
                    } else {
                        Bytes.copy(row, HASH_BYTES * j, row, HASH_BYTES * (j / 2), HASH_BYTES);
                    }
                }
            }
        }

        /** Gives a block its root: 1 if it was another one, 0 if not, NONE if it is no block. */
        int putRoot(byte[] b, int length) {
            int many = Bytes.blockStarts(b, length, starts);
            if (many == 0) return NONE;
            makeRoot(b, many);
            boolean same = Bytes.same(row, 0, b, ROOT_AT, HASH_BYTES);
            Bytes.copy(row, 0, b, ROOT_AT, HASH_BYTES);
            return same ? 0 : 1;
        }

        /** What stands behind a block's bytes in its record. */
        int sealOf(byte[] b, int length, int place) {
            Bytes.put(sealed, 0, place, 2);
            Bytes.copy(b, 0, sealed, 2, length);
            sha.digest(sealed, 0, 2 + length);
            return sha.value[0];
        }
    }

    /** Links, and the queue of messages with the one that was fetched from it last. */
    private static final class Mail {
        final Rows rows = new Rows(QUEUE_MOST, QUEUE_BYTES);
        final int[] sender = new int[QUEUE_MOST];
        final int[] receiver = new int[QUEUE_MOST];
        final int[] kind = new int[QUEUE_MOST];
        final int[] tick = new int[QUEUE_MOST];
        private final int nodes;
        private final int[] delays;
        int now;
        int gone;
        final byte[] letter = new byte[TAPE_MOST];
        int letterLength;
        int from;
        int kindNow;

        Mail(int nodes) {
            this.nodes = nodes;
            delays = new int[NODES_MOST * NODES_MOST];
        }

        /** The delay between two nodes, 0 if they are not linked. */
        int delayOf(int a, int b) {
            return a < 0 || a >= nodes || b < 0 || b >= nodes ? 0 : delays[NODES_MOST * a + b];
        }

        void setDelay(int a, int b, int delay) {
            if (a < 0 || a >= nodes || b < 0 || b >= nodes) return;
            delays[NODES_MOST * a + b] = delay;
            delays[NODES_MOST * b + a] = delay;
        }

        boolean send(int by, int to, int itsKind, byte[] b, int at, int length) {
            int delay = delayOf(by, to), k = rows.count;
            if (delay == 0 || !rows.add(b, at, length)) {
                gone++;
                return false;
            }
            sender[k] = by;
            receiver[k] = to;
            kind[k] = itsKind;
            tick[k] = now + delay;
            return true;
        }

        /** The first message that comes now, or NONE. */
        int firstNow() {
            for (int k = 0; k < rows.count; k++) {
                if (tick[k] == now) return k;
            }
            return NONE;
        }

        void fetch(int k) {
            if (k < 0 || k >= rows.count) return;
            hold(rows.bytes, rows.start[k], rows.lengthOf(k));
            from = sender[k];
            kindNow = kind[k];
            remove(k);
        }

        void hold(byte[] b, int at, int length) {
            Bytes.copy(b, at, letter, 0, length);
            letterLength = length;
        }

        void remove(int k) {
            if (k < 0 || k >= rows.count) return;
            rows.remove(k);
            int behind = rows.count - k;
            System.arraycopy(sender, k + 1, sender, k, behind);
            System.arraycopy(receiver, k + 1, receiver, k, behind);
            System.arraycopy(kind, k + 1, kind, k, behind);
            System.arraycopy(tick, k + 1, tick, k, behind);
        }
    }

    /** What one node has. */
    private static final class Node {
        final int number;
        boolean isUp = true;
        final byte[] disk = new byte[DISK_BYTES];
        /** Where the next record would stand. */
        int next;
        int fuse = NONE;
        final Tree tree;
        /** What is unspent behind the tip. */
        final Coins coins = new Coins();
        final Rows pool = new Rows(POOL_MOST, POOL_MOST * TRANSACTION_MOST);
        final long[] fees = new long[POOL_MOST];
        final int[] chosen = new int[CHOSEN_MOST];
        final Rows lost = new Rows(LOST_MOST, LOST_MOST * BLOCK_MOST);
        /** The HASHES of the lost ones, for an orphan is known by its HASH, as every block is. */
        private final Rows lostHashes = new Rows(LOST_MOST, LOST_MOST * HASH_BYTES);
        int received;
        int refused;

        Node(int number, Target target) {
            this.number = number;
            tree = new Tree(target);
        }

        /** Has nothing but its blocks. */
        void forget() {
            pool.clear();
            lost.clear();
            lostHashes.clear();
            fuse = NONE;
            coins.replay(tree, tree.tip);
        }

        boolean hasRoomFor(int length) {
            return next + length + RECORD_BYTES + 2 <= DISK_BYTES;
        }

        /** Writes a block's record, or goes down with the fuse and answers false. */
        boolean write(byte[] b, int length, int seal) {
            if (length < 0 || length > b.length || !hasRoomFor(length)) return false;
            int end = next + length + RECORD_BYTES;
            Bytes.put(disk, end, 0, 2);
            Bytes.put(disk, next, 0, 2);
            for (int i = length + RECORD_BYTES - 1; i >= 0; i--) {
                if (fuse == 0) {
                    isUp = false;
                    return false;
                }
                if (fuse > 0) fuse--;
                int fromEnd = length + RECORD_BYTES - 1 - i;
                disk[next + i] = fromEnd < 4 ? (byte) (seal >>> 8 * fromEnd)
                        : i >= 2 ? b[i - 2] : (byte) (length >>> 8 * (1 - i));
            }
            next = end;
            return true;
        }

        boolean isLost(byte[] hash) {
            for (int k = 0; k < lostHashes.count; k++) {
                if (Bytes.same(lostHashes.bytes, lostHashes.start[k], hash, 0, HASH_BYTES)) return true;
            }
            return false;
        }

        void addLost(byte[] b, int length, byte[] hash) {
            if (lost.add(b, 0, length)) lostHashes.add(hash, 0, HASH_BYTES);
        }

        void removeLost(int k) {
            lost.remove(k);
            lostHashes.remove(k);
        }

        /** The oldest orphan behind a block, or NONE. */
        int lostBehind(int block) {
            for (int k = 0; k < lost.count; k++) {
                if (Bytes.same(lost.bytes, lost.start[k], tree.hashes, HASH_BYTES * block, HASH_BYTES)) return k;
            }
            return NONE;
        }

        /** Chooses those of the pool with the greatest fees, the greatest first: how many. */
        int chooseGreatest() {
            int many = 0, used = 0;
            while (many < CHOSEN_MOST && many < pool.count) {
                int best = NONE;
                for (int k = 0; k < pool.count; k++) {
                    if ((used >> k & 1) == 0 && (best < 0 || fees[k] > fees[best])) best = k;
                }
                if (best < 0) break;
                used |= 1 << best;
                chosen[many] = best;
                many++;
            }
            return many;
        }
    }

    /** A transaction that is being put together. */
    private static final class Draft {
        int inputs;
        private final long[] ids = new long[PUTS_MOST];
        private final int[] places = new int[PUTS_MOST];
        final long[] seeds = new long[PUTS_MOST];
        int outputs;
        private final long[] amounts = new long[PUTS_MOST];
        private final long[] addresses = new long[PUTS_MOST];

        int addInput(long id, int place, long seed) {
            if (inputs >= PUTS_MOST) return FULL;
            ids[inputs] = id;
            places[inputs] = place;
            seeds[inputs] = seed;
            inputs++;
            return inputs;
        }

        int addOutput(long amount, long address) {
            if (outputs >= PUTS_MOST) return FULL;
            amounts[outputs] = amount;
            addresses[outputs] = address;
            outputs++;
            return outputs;
        }

        /** Writes it, but for its signatures: how many bytes. */
        int write(byte[] b, int height) {
            Bytes.put(b, 0, inputs, 1);
            Bytes.put(b, 1, outputs, 1);
            if (inputs == 0) Bytes.put(b, 2, height, 4);
            for (int i = 0; i < inputs; i++) {
                Bytes.put(b, Bytes.inputAt(0, i), ids[i], 8);
                Bytes.put(b, Bytes.inputAt(0, i) + 8, places[i], 1);
            }
            for (int i = 0; i < outputs; i++) {
                Bytes.put(b, Bytes.outputAt(0, inputs, i), amounts[i], 8);
                Bytes.put(b, Bytes.outputAt(0, inputs, i) + 8, addresses[i], 8);
            }
            return Bytes.outputAt(0, inputs, outputs);
        }
    }
}
