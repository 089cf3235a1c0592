import java.util.Arrays;

/** Promises 19 to 26 and part 4: links, the queue, ticks, what each kind of message brings about. */
public final class MessagesTest {
    private static final byte[] FIRST = Lab.hashOf(Model.firstBlock().raw);

    private static void due(String what, long got, long want) {
        Lab.due(what, got, want);
    }

    /** Message k of the queue is just this. */
    private static void dueMessage(String what, Lab lab, int k, int[] want, byte[] bytes) {
        for (int w = 0; w < 4; w++) due("23: " + what + ", " + w, lab.x.message(k, w), want[w]);
        due("23: bytes of " + what, lab.x.message(k, 4), bytes.length);
        if (lab.x.message(k, 4) == bytes.length) due("24: " + what, Arrays.equals(lab.message(k), bytes) ? 1 : 0, 1);
    }

    private static int[] row(int... want) {
        return want;
    }

    private static byte[] hashes(Lab lab, int node, int... blocks) {
        byte[] all = new byte[0];
        for (int k : blocks) all = Model.join(all, Lab.hashOf(lab.block(node, k)));
        return all;
    }

    private static byte[] headers(Lab lab, int node, int from, int to) {
        byte[] all = new byte[0];
        for (int k = from; k <= to; k++) all = Model.join(all, Arrays.copyOf(lab.block(node, k), 80));
        return all;
    }

    private static byte[] times(byte[] row, int n) {
        byte[] all = new byte[0];
        for (int i = 0; i < n; i++) all = Model.join(all, row);
        return all;
    }

    private static void links() {
        ChainHouse x = new ChainHouse(3);
        int[][] bad = {{0, 0, 1}, {0, 3, 1}, {-1, 0, 1}, {3, 0, 1}, {0, -1, 1}, {0, 1, 10}, {0, 1, -1}, {1, 2, Integer.MAX_VALUE}};
        for (int[] b : bad) due("21: BAD", x.link(b[0], b[1], b[2]), ChainHouse.BAD);
        due("21: link", x.link(0, 1, 9), 0);
        due("21: the other way round", x.link(1, 0, 1), 9);
        due("21: not any more", x.link(0, 1, 0), 1);
        due("21: not any more", x.link(0, 1, 0), 0);
        due("21: others are not", x.link(0, 2, 3), 0);
        x.down(2);
        due("21: a node that is down", x.link(2, 0, 4), 3);
    }

    private static void posts() {
        Lab lab = new Lab(3);
        ChainHouse x = lab.x;
        x.feed(1, 2, 3, 4, 5);
        int[][] bad = {{0, 0, 1}, {0, 3, 1}, {3, 0, 1}, {-1, 0, 1}, {0, -1, 1}, {0, 1, 0}, {0, 1, 7}, {0, 1, -1}};
        for (int[] b : bad) due("20: BAD", x.post(b[0], b[1], b[2]), ChainHouse.BAD);
        due("20: BAD changes nothing", x.house(5), 20);
        due("20: BAD is not counted", x.house(4), 0);
        due("20: without a link", x.post(0, 1, 1), 0);
        due("20: the tape is empty then", x.house(5), 0);
        due("33: it is gone", x.house(4), 1);
        due("33: the queue is empty", x.house(2), 0);
        x.link(0, 1, 4);
        x.link(1, 2, 1);
        x.down(0);
        for (int kind = 1; kind <= 6; kind++) {
            x.feed(kind, 0, 0, 0, 0);
            due("20: from a node that is down", x.post(0, 1, kind), 1);
        }
        due("20: an empty tape", x.post(1, 2, 3), 1);
        due("33: messages", x.house(2), 7);
        due("33: their bytes", x.house(3), 120);
        dueMessage("the third", lab, 2, row(0, 1, 3, 4), Model.join(Model.bytes(3), new byte[16]));
        dueMessage("the last", lab, 6, row(1, 2, 3, 1), new byte[0]);
        for (int k : new int[] {-1, 7, Integer.MAX_VALUE}) {
            due("23: no message", x.message(k, 0), ChainHouse.BAD);
            due("24: no message", x.messageByte(k, 0), ChainHouse.BAD);
            due("25: no message", x.alter(k, 0, 1), ChainHouse.BAD);
            due("26: no message", x.lose(k), ChainHouse.BAD);
        }
        for (int w : new int[] {-1, 5, Integer.MIN_VALUE}) due("23: no such number", x.message(0, w), ChainHouse.BAD);
        for (int i : new int[] {-1, 20, Integer.MAX_VALUE}) {
            due("24: no byte", x.messageByte(2, i), ChainHouse.BAD);
            due("25: no byte", x.alter(2, i, 1), ChainHouse.BAD);
        }
        due("24: of no bytes", x.messageByte(6, 0), ChainHouse.BAD);
        due("24: the first byte", x.messageByte(0, 0), 0);
        due("25: the first byte", x.alter(0, 0, 7), 7);
        due("25: the last byte", x.alter(5, 19, 7), 7);
        due("24: the last byte", x.messageByte(5, 19), 7);
        due("24: a byte", x.messageByte(2, 3), 3);
        due("25: alter", x.alter(2, 3, 0x101), 2);
        due("25: alter", x.alter(2, 3, -1), 253);
        due("24: it is so", x.messageByte(2, 3), 253);
        due("24: others stay", x.messageByte(1, 3), 2);
        due("26: lose", x.lose(1), 6);
        due("33: a lost one is not gone", x.house(4), 1);
        due("33: bytes", x.house(3), 100);
        dueMessage("what was the third", lab, 1, row(0, 1, 3, 4), Model.join(new byte[] {0, 0, 0, -3}, new byte[16]));
        due("26: lose the last", x.lose(5), 5);
        due("26: lose the first", x.lose(0), 4);
        dueMessage("what was the fourth", lab, 1, row(0, 1, 4, 4), Model.join(Model.bytes(4), new byte[16]));
        x.link(0, 1, 0);
        due("22: a link may go meanwhile", x.tick(4), 4);
        due("32: received", x.told(1, 9), 4);
        due("32: all of another form", x.told(1, 10), 4);
    }

    private static void queueEnds() {
        Lab lab = new Lab(2);
        ChainHouse x = lab.x;
        x.link(0, 1, 1);
        for (int i = 0; i < 10; i++) due("20: 4000 bytes", lab.post(0, 1, 5, new byte[4000]), 1);
        due("33: bytes", x.house(3), 40000);
        due("20: one byte more", lab.post(0, 1, 5, new byte[1]), 0);
        due("20: no bytes", x.post(0, 1, 5), 1);
        due("33: gone", x.house(4), 1);
        x.lose(0);
        for (int i = 11; i <= 200; i++) due("20: post " + i, lab.post(0, 1, 5, new byte[1]), 1);
        due("33: messages", x.house(2), 200);
        due("20: the 201st", x.post(0, 1, 5), 0);
        due("33: gone", x.house(4), 2);
        due("22: all come", x.tick(1), 200);
        due("32: received", x.told(1, 9), 200);
        due("32: refused", x.told(1, 10), 200);
        due("33: the queue is empty", x.house(2), 0);
        due("33: no bytes", x.house(3), 0);
    }

    private static void ticks() {
        Lab lab = new Lab(3);
        ChainHouse x = lab.x;
        for (int n : new int[] {0, -1, 65, Integer.MAX_VALUE, Integer.MIN_VALUE}) due("22: BAD", x.tick(n), ChainHouse.BAD);
        due("33: no tick", x.house(1), 0);
        due("22: 64 ticks", x.tick(64), 0);
        due("33: the tick", x.house(1), 64);
        x.link(0, 1, 2);
        x.link(0, 2, 5);
        x.down(1);
        due("22: 7 ticks", x.tick(7), 0);
        due("33: nothing is told", x.house(2), 0);
        due("22: a multiple of 8", x.tick(1), 0);
        due("33: three are told", x.house(2), 3);
        dueMessage("told", lab, 0, row(0, 1, 1, 74), FIRST);
        dueMessage("told", lab, 1, row(0, 2, 1, 77), FIRST);
        dueMessage("told", lab, 2, row(2, 0, 1, 77), FIRST);
        due("22: to a node that is down", x.tick(2), 0);
        due("33: it is gone", x.house(4), 1);
        due("32: not received", x.told(1, 9), 0);
        due("22: the others", x.tick(3), 2);
        due("32: received", x.told(0, 9), 1);
        due("32: refused", x.told(0, 10), 0);
        due("33: nothing came of it", x.house(2), 0);
    }

    /** A chain goes from node 0 over 1 to 2, headers first, twenty blocks with 16 at once. */
    private static void headersFirst() {
        Lab lab = new Lab(3);
        ChainHouse x = lab.x;
        lab.mine(0, 0, 20);
        x.link(0, 1, 1);
        x.link(1, 2, 3);
        due("20: told", lab.post(0, 1, 1, hashes(lab, 0, 0, 20)), 1);
        due("22: received", x.tick(1), 1);
        dueMessage("ask", lab, 0, row(1, 0, 2, 2), FIRST);
        due("22: received", x.tick(1), 1);
        dueMessage("headers", lab, 0, row(0, 1, 3, 3), headers(lab, 0, 1, 16));
        due("22: received", x.tick(1), 1);
        dueMessage("get", lab, 0, row(1, 0, 4, 4), hashes(lab, 0, 1, 2, 3, 4, 5, 6, 7, 8, 9, 10, 11, 12, 13, 14, 15, 16));
        due("22: received", x.tick(1), 1);
        due("33: sixteen blocks", x.house(2), 16);
        for (int k = 0; k < 16; k++) dueMessage("block", lab, k, row(0, 1, 5, 5), lab.block(0, k + 1));
        due("22: received", x.tick(1), 16);
        due("32: stored", x.told(1, 1), 17);
        due("33: told on, but not back", x.house(2), 16);
        for (int k = 0; k < 16; k++) dueMessage("told", lab, k, row(1, 2, 1, 8), hashes(lab, 0, k + 1));
        for (int i = 0; i < 2; i++) x.tick(1);
        due("22: tick 8", x.tick(1), 16);
        // Sixteen times ask, then what is told by all tips.
        due("33: sixteen ask", x.house(2), 16 + 4);
        dueMessage("ask", lab, 15, row(2, 1, 2, 11), FIRST);
        dueMessage("told", lab, 16, row(0, 1, 1, 9), hashes(lab, 0, 20));
        dueMessage("told", lab, 17, row(1, 0, 1, 9), hashes(lab, 0, 16));
        dueMessage("told", lab, 18, row(1, 2, 1, 11), hashes(lab, 0, 16));
        dueMessage("told", lab, 19, row(2, 1, 1, 11), FIRST);
        due("22: tick 9", x.tick(1), 2);
        dueMessage("ask", lab, 18, row(1, 0, 2, 10), hashes(lab, 0, 16, 15, 14, 12, 8, 0));
        for (int i = 0; i < 64; i++) x.tick(1);
        due("32: all have it", x.told(1, 3), 20);
        due("32: all have it", x.told(2, 3), 20);
        due("32: no refused one", x.told(2, 10), 0);
    }

    private static void askSteps() {
        int[][] want = {{0}, {1, 0}, {2, 1, 0}, {3, 2, 1, 0}, {4, 3, 2, 0}, {5, 4, 3, 1, 0}, {6, 5, 4, 2, 0}, {7, 6, 5, 3, 0},
            {8, 7, 6, 4, 0}, {9, 8, 7, 5, 1, 0}};
        Lab lab = new Lab(2);
        lab.x.link(0, 1, 1);
        for (int h = 0; h < want.length; h++) {
            if (h > 0) lab.mine(0, 0, 1);
            while (lab.x.house(2) > 0) lab.x.lose(0);
            lab.post(1, 0, 1, new byte[32]);
            lab.x.tick(1);
            int k = lab.x.message(0, 2) == 2 ? 0 : 1;
            due("23: ask at " + h, Arrays.equals(lab.message(k), hashes(lab, 0, want[h])) ? 1 : 0, 1);
        }
    }

    private static void told() {
        Lab lab = new Lab(2);
        ChainHouse x = lab.x;
        lab.mine(0, 0, 2);
        x.link(0, 1, 1);
        for (int n : new int[] {0, 1, 31, 33, 17 * 32, 80}) lab.post(1, 0, 1, new byte[n]);
        due("22: received", x.tick(1), 6);
        due("32: refused", x.told(0, 10), 6);
        due("33: nothing came of it", x.house(2), 0);
        lab.post(1, 0, 1, hashes(lab, 0, 2, 1, 0));
        lab.post(1, 0, 1, times(new byte[32], 16));
        lab.post(1, 0, 1, Model.join(hashes(lab, 0, 1), new byte[32], times(new byte[] {1}, 32)));
        due("22: received", x.tick(1), 3);
        due("33: one ask each", x.house(2), 2);
        due("23: an ask", x.message(0, 2), 2);
        due("32: not refused", x.told(0, 10), 6);
    }

    private static void asks() {
        Lab lab = new Lab(2);
        ChainHouse x = lab.x;
        lab.mine(0, 0, 3);
        byte[] fork = Lab.craft(FIRST, 1500, Lab.EASIEST, Lab.reward(1, 1, 1));
        lab.give(0, fork);
        x.link(0, 1, 1);
        for (int n : new int[] {0, 31, 33, 17 * 32}) lab.post(1, 0, 2, new byte[n]);
        x.tick(1);
        due("32: refused", x.told(0, 10), 4);
        lab.post(1, 0, 2, Model.join(new byte[32], Lab.hashOf(fork), hashes(lab, 0, 1, 2)));
        lab.post(1, 0, 2, hashes(lab, 0, 2, 3));
        lab.post(1, 0, 2, hashes(lab, 0, 3, 0));
        lab.post(1, 0, 2, new byte[32]);
        lab.post(1, 0, 2, Model.join(times(new byte[32], 15), FIRST));
        x.tick(1);
        due("33: three are answered", x.house(2), 3);
        dueMessage("behind block 1", lab, 0, row(0, 1, 3, 3), headers(lab, 0, 2, 3));
        dueMessage("behind block 2", lab, 1, row(0, 1, 3, 3), headers(lab, 0, 3, 3));
        dueMessage("behind the first", lab, 2, row(0, 1, 3, 3), headers(lab, 0, 1, 3));
        due("32: not refused", x.told(0, 10), 4);
    }

    private static void headers() {
        Lab lab = new Lab(2);
        ChainHouse x = lab.x;
        lab.mine(0, 0, 18);
        byte[] h = headers(lab, 0, 1, 18);
        for (int k = 1; k <= 2; k++) lab.give(1, lab.block(0, k));
        x.link(0, 1, 1);
        for (int n : new int[] {0, 79, 81, 32, 17 * 80}) lab.post(0, 1, 3, Arrays.copyOf(h, n));
        x.tick(1);
        due("32: refused", x.told(1, 10), 5);
        due("33: nothing came of it", x.house(2), 0);
        int[] all = {3, 4, 5, 6, 7, 8, 9, 10, 11, 12, 13, 14, 15, 16};
        wanted("all but those stored", lab, Arrays.copyOf(h, 16 * 80), all);
        wanted("over the change of bits", lab, Arrays.copyOfRange(h, 2 * 80, 18 * 80), 3, 4, 5, 6, 7, 8, 9, 10, 11, 12, 13, 14, 15, 16, 17, 18);
        wanted("one that is not behind a stored one", lab, Arrays.copyOfRange(h, 3 * 80, 5 * 80));
        wanted("a gap", lab, Model.join(Arrays.copyOfRange(h, 2 * 80, 4 * 80), Arrays.copyOfRange(h, 5 * 80, 7 * 80)), 3, 4);
        wanted("the FIRST one, too", lab, Model.join(headers(lab, 0, 0, 0), Arrays.copyOf(h, 3 * 80)), 3);
        wanted("only those stored", lab, Arrays.copyOf(h, 2 * 80));
        wanted("a stored one between", lab, Model.join(Arrays.copyOfRange(h, 2 * 80, 3 * 80), Arrays.copyOf(h, 80), Arrays.copyOfRange(h, 3 * 80, 4 * 80)), 3);
        wanted("twice the same", lab, Model.join(Arrays.copyOfRange(h, 2 * 80, 3 * 80), Arrays.copyOfRange(h, 2 * 80, 3 * 80)), 3, 3);
        byte[] before = Arrays.copyOfRange(h, 2 * 80, 3 * 80);
        byte[] third = Lab.hashOf(before);
        int time = x.block(0, 3, 2);
        wanted("no work", lab, Model.join(before, lazy(third)), 3);
        wanted("bits not right", lab, Model.join(before, Model.join(third, new byte[32], Model.bytes(time + 9), Model.bytes(0x21008000), new byte[8])), 3);
        wanted("bits not due", lab, Model.join(before, head(third, time + 9, 0x200FFFFE)), 3);
        wanted("the middle time", lab, Model.join(before, head(third, x.block(0, 2, 2), Lab.EASIEST)), 3);
        wanted("a time below 0", lab, Model.join(before, head(third, -5, Lab.EASIEST)), 3);
        byte[] right = head(third, x.block(0, 2, 2) + 1, Lab.EASIEST);
        lab.post(0, 1, 3, Model.join(before, right));
        x.tick(1);
        int k = last(lab);
        due("24: two that are right", Arrays.equals(lab.message(k), Model.join(third, Lab.hashOf(right))) ? 1 : 0, 1);
    }

    private static int last(Lab lab) {
        int k = lab.x.house(2) - 1;
        while (k > 0 && lab.x.message(k, 2) != 4) k--;
        return k;
    }

    private static byte[] head(byte[] before, int time, int bits) {
        return Arrays.copyOf(Lab.craft(before, time, bits, Lab.reward(4, 1, 1)), 80);
    }

    private static byte[] lazy(byte[] before) {
        byte[] head = head(before, 5000, Lab.EASIEST);
        do head[79]++; while (Model.meets(Lab.hashOf(head), Lab.EASIEST));
        return head;
    }

    private static void wanted(String what, Lab lab, byte[] headers, int... blocks) {
        while (lab.x.house(2) > 0) lab.x.lose(0);
        lab.post(0, 1, 3, headers);
        lab.x.tick(1);
        int k = last(lab);
        boolean sent = lab.x.house(2) > 0 && lab.x.message(k, 2) == 4;
        due("22: a get, " + what, sent ? 1 : 0, blocks.length > 0 ? 1 : 0);
        if (sent) due("24: " + what, Arrays.equals(lab.message(k), hashes(lab, 0, blocks)) ? 1 : 0, 1);
    }

    private static void gets() {
        Lab lab = new Lab(2);
        ChainHouse x = lab.x;
        lab.mine(0, 0, 2);
        byte[] fork = Lab.craft(FIRST, 1500, Lab.EASIEST, Lab.reward(1, 1, 1));
        lab.give(0, fork);
        x.link(0, 1, 1);
        for (int n : new int[] {0, 31, 33, 17 * 32}) lab.post(1, 0, 4, new byte[n]);
        x.tick(1);
        due("32: refused", x.told(0, 10), 4);
        lab.post(1, 0, 4, Model.join(new byte[32], hashes(lab, 0, 2, 0), Lab.hashOf(fork), hashes(lab, 0, 2)));
        x.tick(1);
        due("33: each that is stored", x.house(2), 4);
        dueMessage("block 2", lab, 0, row(0, 1, 5, 3), lab.block(0, 2));
        dueMessage("the first", lab, 1, row(0, 1, 5, 3), lab.block(0, 0));
        dueMessage("the fork", lab, 2, row(0, 1, 5, 3), fork);
        dueMessage("block 2 again", lab, 3, row(0, 1, 5, 3), lab.block(0, 2));
    }

    private static void blocks() {
        Lab lab = new Lab(4);
        ChainHouse x = lab.x;
        byte[] one = lab.solved(3, 1, 1001);
        byte[] two = Lab.craft(Lab.hashOf(one), 1002, Lab.EASIEST, Lab.reward(2, 1, 1));
        x.link(0, 1, 1);
        x.link(0, 2, 2);
        x.link(0, 3, 3);
        lab.post(1, 0, 5, two);
        x.tick(1);
        due("32: an orphan", x.told(0, 6), 1);
        due("33: ask", x.house(2), 1);
        dueMessage("ask of the sender", lab, 0, row(0, 1, 2, 2), FIRST);
        lab.post(1, 0, 5, two);
        x.tick(1);
        due("32: it was one before", x.told(0, 6), 1);
        due("33: the ask came, no new one", x.house(2), 0);
        lab.post(2, 0, 5, one);
        x.tick(2);
        due("32: both are stored", x.told(0, 1), 3);
        due("33: each is told to two", x.house(2), 4);
        dueMessage("one to 1", lab, 0, row(0, 1, 1, 5), Lab.hashOf(one));
        dueMessage("one to 3", lab, 1, row(0, 3, 1, 7), Lab.hashOf(one));
        dueMessage("two to 1", lab, 2, row(0, 1, 1, 5), Lab.hashOf(two));
        dueMessage("two to 3", lab, 3, row(0, 3, 1, 7), Lab.hashOf(two));
        while (x.house(2) > 0) x.lose(0);
        byte[] three = Lab.craft(Lab.hashOf(two), 1003, Lab.EASIEST, Lab.reward(3, 1, 1));
        due("19: given by nobody", lab.give(0, three), 0);
        due("33: told to all", x.house(2), 3);
        while (x.house(2) > 0) x.lose(0);
        lab.post(1, 0, 5, three);
        lab.post(1, 0, 5, Lab.with(three, three.length - 1, 77));
        lab.post(1, 0, 5, Arrays.copyOf(three, 50));
        due("22: received", x.tick(1), 3);
        due("33: nothing came of it", x.house(2), 0);
        due("32: refused is what has no form", x.told(0, 10), 1);
        x.link(0, 1, 2);
        byte[] lost = Lab.craft(new byte[32], 1003, Lab.EASIEST, Lab.reward(3, 1, 1));
        lab.post(1, 0, 5, lost);
        x.link(0, 1, 0);
        int gone = x.house(4);
        x.tick(1);
        x.tick(1);
        due("33: ask of one that is not linked any more", x.house(4), gone + 1);
    }

    private static void transactions() {
        Lab lab = new Lab(4);
        ChainHouse x = lab.x;
        lab.mine(0, 0, 4);
        for (int k = 1; k <= 4; k++) lab.give(1, lab.block(0, k));
        x.link(0, 1, 1);
        x.link(0, 2, 2);
        x.link(0, 3, 3);
        byte[] tx = Lab.tx(Lab.ins(x.unspent(0, 0, 0), 0, 0), 50, 1);
        due("19: given by nobody", lab.giveTx(0, tx), 0);
        due("33: sent on to all", x.house(2), 3);
        for (int to = 1; to <= 3; to++) dueMessage("sent on", lab, to - 1, row(0, to, 6, to), tx);
        x.tick(4);
        due("32: taken by 1", x.told(1, 5), 1);
        due("32: not by 2, which has no such block", x.told(2, 5), 0);
        due("33: 1 has nobody to send it on to", x.house(2), 0);
        byte[] more = Lab.tx(Lab.ins(x.unspent(0, 1, 0), 0, 0), 50, 1);
        lab.post(1, 0, 6, more);
        lab.post(1, 0, 6, more);
        lab.post(1, 0, 6, Arrays.copyOf(more, 20));
        lab.post(1, 0, 6, Lab.reward(1, 1, 1));
        due("22: received", x.tick(1), 4);
        due("33: sent on once, but not back", x.house(2), 2);
        dueMessage("sent on", lab, 0, row(0, 2, 6, 7), more);
        dueMessage("sent on", lab, 1, row(0, 3, 6, 8), more);
        due("32: refused is what has no form", x.told(0, 10), 1);
        due("32: in the pool", x.told(0, 5), 2);
    }

    /** What comes to a node is out of the queue before the answer is sent. */
    private static void roomForAnswers() {
        Lab lab = new Lab(2);
        ChainHouse x = lab.x;
        x.link(0, 1, 1);
        for (int i = 0; i < 200; i++) lab.post(0, 1, 1, new byte[32]);
        due("22: all come", x.tick(1), 200);
        due("33: each is answered", x.house(2), 200);
        due("33: none is gone", x.house(4), 0);
    }

    public static void main(String[] args) {
        links();
        posts();
        queueEnds();
        ticks();
        headersFirst();
        askSteps();
        told();
        asks();
        headers();
        gets();
        blocks();
        transactions();
        roomForAnswers();
        Lab.end();
    }
}
