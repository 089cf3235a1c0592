import java.util.Arrays;

/** Edges of part 4 of the terms: links, the queue, ticks, the six kinds of messages. */
public final class MessageEdgesTest {
    private static final int BAD = Edges.BAD, LATEST = Integer.MAX_VALUE;
    private static final int TOLD = 1, ASK = 2, HEADERS = 3, GET = 4, BLOCK = 5, TRANSACTION = 6;

    private static void due(String what, long got, long want) {
        Edges.due(what, got, want);
    }

    static void all() {
        delays();
        queue();
        gone();
        ticks();
        everyEight();
        told();
        asking();
        asked();
        headersForm();
        headers();
        headersWrong();
        gets();
        blocks();
        transactions();
        shorter();
        refused();
    }

    private static int[] row(int... numbers) {
        return numbers;
    }

    private static byte[] times(byte[] one, int many) {
        byte[] all = new byte[0];
        for (int i = 0; i < many; i++) all = Model.join(all, one);
        return all;
    }

    /** Nodes 0 and 1 are LINKED; node 0 has so many plain blocks behind the FIRST one, node 1 so many. */
    private static House pair(int zero, int one) {
        House h = new House(2).grow(0, 1, zero).grow(1, 1, one);
        h.link(0, 1, 1);
        return h;
    }

    // ---- links, the queue

    private static void delays() {
        Edges.term("Two nodes may be LINKED, with a DELAY of 1 .. 9 TICKS.", () -> {
            for (int delay : new int[] {1, 9}) {
                House h = new House(2);
                due("link", h.link(0, 1, delay), 0);
                h.post(0, 1, TOLD, Plain.hash(0));
                if (delay > 1) due("tick, one too few", h.tick(delay - 1), 0);
                due("the message is underway", h.told(1, 9), 0);
                due("tick(1)", h.tick(1), 1);
                due("it came", h.told(1, 9), 1);
            }
            House h = new House(2);
            for (int delay : new int[] {-1, 10}) due("link(0, 1, " + delay + ")", h.link(0, 1, delay), BAD);
        });
        Edges.term("a TICK at which it comes: that at which it was sent, and the DELAY.", () -> {
            House h = new House(2);
            h.link(0, 1, 9);
            h.tick(3);
            h.post(0, 1, TOLD);
            due("its TICK", h.message(0, 3), 12);
            h.link(0, 1, 1);
            due("its TICK, by another DELAY", h.message(0, 3), 12);
            h.link(0, 1, 0);
            due("its TICK, without LINK", h.message(0, 3), 12);
            due("tick(8)", h.tick(8), 0);
            due("tick(1)", h.tick(1), 1);
        });
    }

    private static void queue() {
        Edges.term("THE QUEUE has 200 at most", () -> {
            House h = pair(0, 0);
            for (int i = 0; i < 200; i++) due("post " + i, h.post(0, 1, TOLD), 1);
            due("post of one more", h.post(0, 1, TOLD), 0);
            due("messages", h.house(2), 200);
            due("gone", h.house(4), 1);
            due("tick(1)", h.tick(1), 200);
            due("told(1, 9)", h.told(1, 9), 200);
            due("post", h.post(0, 1, TOLD), 1);
        });
        Edges.term("and 40000 bytes at most", () -> {
            // Seven of the POOL in each block that is assembled: 1076 bytes.
            House h = pair(12, 0);
            for (int i = 0; i < 7; i++) {
                h.begin();
                h.input(Plain.coin(i), 0, 0);
                for (int k = 0; k < 4; k++) h.output(1, k);
                h.sign(0);
                h.give(0, TRANSACTION);
            }
            h.loseAll();
            for (int i = 0; i < 37; i++) {
                due("assemble", h.assemble(0, i, LATEST), 1076);
                due("post", h.post(0, 1, BLOCK), 1);
            }
            due("their bytes", h.house(3), 39812);
            h.assemble(0, 0, LATEST);
            h.cut(1076 - 189);
            due("post of one byte too many", h.post(0, 1, BLOCK), 0);
            due("gone", h.house(4), 1);
            h.assemble(0, 0, LATEST);
            h.cut(1076 - 188);
            due("post of just so many", h.post(0, 1, BLOCK), 1);
            due("their bytes", h.house(3), 40000);
            due("post of nothing", h.post(0, 1, BLOCK), 1);
            h.feed(0, 0, 0, 0, 0);
            h.cut(19);
            due("post of one byte", h.post(0, 1, BLOCK), 0);
            due("gone", h.house(4), 2);
            h.lose(0);
            due("their bytes", h.house(3), 40000 - 1076);
            h.assemble(0, 0, LATEST);
            due("post", h.post(0, 1, BLOCK), 1);
        });
    }

    private static void gone() {
        Edges.term("what has no room, or is sent without LINK, or to nobody, is gone (counted).", () -> {
            // What a node sends by itself has no room.
            House h = pair(0, 0);
            for (int i = 0; i < 200; i++) h.post(1, 0, TOLD);
            due("give", h.give(0, Plain.block(1)), 0);
            due("it is STORED", h.told(0, 1), 2);
            due("messages", h.house(2), 200);
            due("gone", h.house(4), 1);
        });
        Edges.term("what has no room, or is sent without LINK, or to nobody, is gone (counted).", () -> {
            // What is sent back goes without LINK, if that has gone meanwhile.
            House h = pair(0, 0);
            h.post(0, 1, TOLD, Plain.hash(9));
            h.link(0, 1, 0);
            due("tick(1)", h.tick(1), 1);
            due("gone", h.house(4), 1);
            due("messages", h.house(2), 0);
        });
        Edges.term("what has no room, or is sent without LINK, or to nobody, is gone (counted).", () -> {
            House h = pair(0, 0);
            due("give of an ORPHAN: nobody is asked", h.give(0, Plain.block(2)), 6);
            due("gone", h.house(4), 1);
            due("messages", h.house(2), 0);
            due("post without LINK", new House(2).post(0, 1, TOLD), 0);
        });
    }

    // ---- ticks

    private static void ticks() {
        Edges.term("In a TICK, which is one more than the one before, what comes is received in the order in which it was sent (those sent meanwhile are behind all)", () -> {
            House h = new House(3);
            h.link(0, 1, 3);
            h.link(2, 1, 1);
            byte[] slow = Plain.fork(Plain.block(0), 1, 2000, 1), quick = Plain.fork(Plain.block(0), 1, 2001, 2);
            h.post(0, 1, BLOCK, slow);
            h.tick(2);
            h.post(2, 1, BLOCK, quick);
            h.post(0, 1, TOLD);
            due("tick(1): both come", h.tick(1), 2);
            due("TIME of the first", h.block(1, 1, 2), 2000);
            due("TIME of the second", h.block(1, 2, 2), 2001);
            // What was underway stands before what was sent meanwhile.
            h.messageIs("underway", 0, row(0, 1, TOLD, 5), new byte[0]);
            h.messageIs("told of the first", 1, row(1, 2, TOLD, 4), Lab.hashOf(slow));
            h.messageIs("told of the second", 2, row(1, 0, TOLD, 6), Lab.hashOf(quick));
            due("messages", h.house(2), 3);
        });
        Edges.term("In a TICK, which is one more than the one before, what comes is received in the order in which it was sent (those sent meanwhile are behind all)", () -> {
            // A chain of messages, each sent in the TICK before.
            House h = pair(1, 0);
            h.post(0, 1, TOLD, Plain.hash(1));
            int[] kinds = {ASK, HEADERS, GET, BLOCK};
            for (int i = 0; i < 4; i++) {
                due("tick(1)", h.tick(1), 1);
                due("KIND", h.message(0, 2), kinds[i]);
                due("TICK", h.message(0, 3), i + 2);
            }
            due("tick(1)", h.tick(1), 1);
            due("it is STORED", h.told(1, 1), 2);
            due("messages", h.house(2), 0);
        });
        Edges.term("what comes to a node that is DOWN is gone.", () -> {
            House h = pair(0, 0);
            h.post(0, 1, BLOCK, Plain.block(1));
            h.down(1);
            due("tick(1)", h.tick(1), 0);
            due("gone", h.house(4), 1);
            due("told(1, 9)", h.told(1, 9), 0);
            due("up(1)", h.up(1), 1);
            h.post(0, 1, BLOCK, Plain.block(1));
            h.down(1);
            h.up(1);
            due("tick(1): it is UP when that comes", h.tick(1), 1);
            due("it is STORED", h.told(1, 1), 2);
        });
    }

    private static void everyEight() {
        Edges.term("Then, if the TICK is a multiple of 8, each node that is UP, by numbers, sends TOLD with its TIP's HASH to all it is LINKED with, by numbers.", () -> {
            House h = new House(4).grow(1, 1, 1);
            h.link(2, 0, 9);
            h.link(1, 0, 9);
            h.link(2, 1, 9);
            h.link(2, 3, 9);
            h.down(3);
            h.tick(7);
            due("messages at 7", h.house(2), 0);
            h.tick(1);
            int[][] want = {{0, 1}, {0, 2}, {1, 0}, {1, 2}, {2, 0}, {2, 1}, {2, 3}};
            due("messages at 8", h.house(2), want.length);
            for (int k = 0; k < want.length; k++) {
                h.messageIs("told", k, row(want[k][0], want[k][1], TOLD, 17), Plain.hash(want[k][0] == 1 ? 1 : 0));
            }
            h.tick(1);
            due("messages at 9", h.house(2), want.length);
        });
        Edges.term("Then, if the TICK is a multiple of 8", () -> {
            // What came in the same TICK counts.
            House h = pair(0, 0);
            h.tick(7);
            h.post(0, 1, BLOCK, Plain.block(1));
            due("tick(1)", h.tick(1), 1);
            due("messages at 8", h.house(2), 2);
            h.messageIs("told by 0", 0, row(0, 1, TOLD, 9), Plain.hash(0));
            h.messageIs("told by 1", 1, row(1, 0, TOLD, 9), Plain.hash(1));
            h.loseAll();
            h.tick(7);
            due("messages at 15", h.house(2), 0);
            h.tick(1);
            due("messages at 16", h.house(2), 2);
        });
    }

    // ---- 1 TOLD

    /** Messages of a kind with so many bytes come to node 1: how many are refused. */
    private static int refusedOf(int kind, int... sizes) {
        House h = pair(0, 0);
        for (int size : sizes) h.post(0, 1, kind, new byte[size]);
        due("tick(1)", h.tick(1), sizes.length);
        due("nothing comes of them", h.house(2), kind == TOLD ? sizes.length - h.told(1, 10) : 0);
        return h.told(1, 10);
    }

    private static void told() {
        Edges.term("KIND 1 TOLD: HASHES (32 bytes each, 1 .. 16).", () -> {
            due("refused", refusedOf(TOLD, 0, 1, 31, 33, 63, 80, 17 * 32, 16 * 32 + 1), 8);
            due("refused", refusedOf(TOLD, 32, 64, 16 * 32), 0);
        });
        Edges.term("Of the first one that the receiver has not STORED: it sends ASK back (and looks at no more).", () -> {
            House h = pair(2, 1);
            h.post(0, 1, TOLD, Plain.hashes(0, 1, 0));
            due("tick(1)", h.tick(1), 1);
            due("all are STORED: nothing is sent", h.house(2), 0);
            h.post(0, 1, TOLD, Plain.hashes(1, 2, 3, 4));
            due("tick(1)", h.tick(1), 1);
            due("one ASK", h.house(2), 1);
            h.messageIs("it", 0, row(1, 0, ASK, 3), Plain.hashes(1, 0));
        });
        Edges.term("Of the first one that the receiver has not STORED: it sends ASK back (and looks at no more).", () -> {
            House h = pair(0, 0);
            h.post(0, 1, TOLD, Model.join(times(Plain.hash(0), 15), Plain.hash(1)));
            h.tick(1);
            due("the sixteenth is not STORED", h.house(2), 1);
            byte[] near = Plain.hash(0);
            near[31] ^= 1;
            h.loseAll();
            h.post(0, 1, TOLD, near);
            h.tick(1);
            due("one of another last byte is not STORED", h.house(2), 1);
        });
    }

    // ---- 2 ASK

    private static void asking() {
        Edges.term("2 ASK: HASHES, 1 .. 16, of the sender's chain: those of its TIP and of the blocks 1, 2, 4, 8, .. before it, as long as there are such, and at last the FIRST one's, if it is not there yet.", () -> {
            int[][] want = {{0}, {1, 0}, {2, 1, 0}, {3, 2, 1, 0}, {4, 3, 2, 0}, {5, 4, 3, 1, 0}, {8, 7, 6, 4, 0}, {9, 8, 7, 5, 1, 0},
                {16, 15, 14, 12, 8, 0}, {17, 16, 15, 13, 9, 1, 0}};
            for (int[] w : want) {
                House h = pair(0, w[0]);
                h.post(0, 1, TOLD, new byte[32]);
                h.tick(1);
                h.messageIs("ASK at " + w[0], 0, row(1, 0, ASK, 2), Plain.hashes(w));
            }
        });
        Edges.term("2 ASK: HASHES, 1 .. 16, of the sender's chain", () -> {
            // Of the longest chain that a disk has room for there are nine.
            House h = pair(0, 112);
            h.post(0, 1, TOLD, new byte[32]);
            h.tick(1);
            h.messageIs("ASK at 112", 0, row(1, 0, ASK, 2), Plain.hashes(112, 111, 110, 108, 104, 96, 80, 48, 0));
        });
        Edges.term("2 ASK: HASHES, 1 .. 16, of the sender's chain", () -> {
            due("refused", refusedOf(ASK, 0, 31, 33, 80, 17 * 32), 5);
            due("refused", refusedOf(ASK, 32, 16 * 32), 0);
        });
    }

    /** What node 0 with so many blocks answers when it is asked. */
    private static House asked(int blocks, byte[] hashes) {
        House h = pair(blocks, 0);
        h.post(1, 0, ASK, hashes);
        due("tick(1)", h.tick(1), 1);
        return h;
    }

    private static void asked() {
        Edges.term("The receiver looks for the first one of these that is on its own TIP's chain", () -> {
            House h = asked(3, Model.join(new byte[32], Plain.hashes(2, 1, 0)));
            h.messageIs("HEADERS", 0, row(0, 1, HEADERS, 2), Plain.headers(3, 3));
            House last = asked(2, Model.join(times(new byte[32], 15), Plain.hash(0)));
            last.messageIs("HEADERS", 0, row(0, 1, HEADERS, 2), Plain.headers(1, 2));
            House beside = pair(3, 0);
            byte[] fork = Plain.fork(Plain.block(2), 3, 4000, 1);
            due("a block beside the chain", beside.give(0, fork), 0);
            beside.loseAll();
            beside.post(1, 0, ASK, Model.join(Lab.hashOf(fork), Plain.hash(1)));
            beside.tick(1);
            beside.messageIs("HEADERS", 0, row(0, 1, HEADERS, 2), Plain.headers(2, 3));
        });
        Edges.term("the HEADERS of the blocks behind that on its chain, 16 at most, it sends back as 3 HEADERS", () -> {
            for (int behind : new int[] {1, 15, 16, 17}) {
                House h = asked(behind + 1, Plain.hash(1));
                int to = Math.min(17, behind + 1);
                h.messageIs("HEADERS of " + behind, 0, row(0, 1, HEADERS, 2), Plain.headers(2, to));
                due("messages", h.house(2), 1);
            }
        });
        Edges.term("nothing, if there are none, or none of the HASHES is on its chain", () -> {
            due("behind the TIP", asked(3, Plain.hashes(3, 2, 1)).house(2), 0);
            due("of none", asked(3, Plain.hashes(4, 5, 6)).house(2), 0);
            House h = asked(0, Plain.hash(0));
            due("behind the FIRST one, which is the TIP", h.house(2), 0);
            due("gone", h.house(4), 0);
            due("refused", h.told(0, 10), 0);
        });
    }

    // ---- 3 HEADERS

    private static void headersForm() {
        Edges.term("(80 bytes each, 1 .. 16;", () -> {
            due("refused", refusedOf(HEADERS, 0, 32, 79, 81, 159, 17 * 80), 6);
            due("refused", refusedOf(HEADERS, 80, 16 * 80), 0);
        });
        Edges.term("(80 bytes each, 1 .. 16;", () -> {
            House h = pair(0, 0);
            h.post(0, 1, HEADERS, Plain.headers(1, 16));
            due("tick(1)", h.tick(1), 1);
            due("sixteen", h.message(0, 4), 16 * 32);
            for (int i = 0; i < 16; i++) due("the last byte of HASH " + i, h.messageByte(0, 32 * i + 31), Plain.hash(i + 1)[31] & 255);
        });
        Edges.term("(80 bytes each, 1 .. 16;", () -> {
            House h = pair(0, 0);
            h.post(0, 1, HEADERS, Plain.headers(1, 17));
            due("tick(1)", h.tick(1), 1);
            due("seventeen: nothing comes of them", h.house(2), 0);
        });
    }

    /** Node 1 has two plain blocks; HEADERS come to it: what it gets of them. */
    private static void wanted(String what, byte[] headers, byte[] hashes) {
        House h = pair(0, 2);
        h.post(0, 1, HEADERS, headers);
        due("tick(1)", h.tick(1), 1);
        due(what + ": a GET", h.house(2), hashes.length > 0 ? 1 : 0);
        if (hashes.length > 0) h.messageIs(what, 0, row(1, 0, GET, 2), hashes);
        due(what + ": refused", h.told(1, 10), 0);
        due(what + ": gone", h.house(4), 0);
    }

    private static byte[] header(byte[] before, int time, int bits) {
        return Arrays.copyOf(Lab.craft(before, time, bits, Lab.reward(1, 1, 1)), 80);
    }

    private static void headers() {
        Edges.term("3: the receiver goes along: a HEADER whose HASH is STORED is passed over", () -> {
            wanted("those that are STORED", Plain.headers(0, 2), new byte[0]);
            wanted("two that are STORED, then others", Plain.headers(0, 4), Plain.hashes(3, 4));
            wanted("one that is STORED in between", Model.join(Plain.headers(3, 3), Plain.headers(1, 1), header(Plain.hash(1), 3000, Lab.EASIEST)),
                Model.join(Plain.hash(3), Lab.hashOf(header(Plain.hash(1), 3000, Lab.EASIEST))));
        });
        Edges.term("the block before is STORED, or is that of the HEADER before it", () -> {
            wanted("behind the TIP", Plain.headers(3, 3), Plain.hash(3));
            byte[] beside = header(Plain.hash(0), 3000, Lab.EASIEST);
            wanted("behind the FIRST one", beside, Lab.hashOf(beside));
            wanted("behind none", Plain.headers(4, 5), new byte[0]);
            wanted("a gap", Model.join(Plain.headers(3, 3), Plain.headers(5, 6)), Plain.hash(3));
            wanted("behind the one two before it", Model.join(Plain.headers(3, 3), beside, Plain.headers(4, 4)),
                Model.join(Plain.hash(3), Lab.hashOf(beside)));
            wanted("behind the one before a STORED one", Model.join(Plain.headers(3, 3), Plain.headers(1, 1), Plain.headers(4, 4)), Plain.hash(3));
        });
        Edges.term("If there are HASHES it sends one GET with all.", () -> {
            wanted("fourteen", Plain.headers(1, 16), Plain.hashes(3, 4, 5, 6, 7, 8, 9, 10, 11, 12, 13, 14, 15, 16));
            wanted("none", Plain.headers(1, 2), new byte[0]);
        });
    }

    private static void headersWrong() {
        Edges.term("one that is right (its TIME as told; WORK;", () -> {
            byte[] third = Plain.headers(3, 3);
            for (int time : new int[] {-1, Integer.MIN_VALUE}) {
                wanted("TIME " + time, Model.join(third, header(Plain.hash(3), time, Lab.EASIEST)), Plain.hash(3));
            }
            byte[] latest = header(Plain.hash(3), LATEST, Lab.EASIEST);
            wanted("the greatest TIME", Model.join(third, latest), Model.join(Plain.hash(3), Lab.hashOf(latest)));
            byte[] lazy = header(Plain.hash(3), 3000, Lab.EASIEST);
            do lazy[79]++; while (Model.meets(Lab.hashOf(lazy), Lab.EASIEST));
            wanted("no WORK", Model.join(third, lazy), Plain.hash(3));
            byte[] hard = Model.join(Plain.hash(3), new byte[32], Model.bytes(3000), Model.bytes(0x04008000), new byte[8]);
            while (!Model.meets(Lab.hashOf(hard), Lab.EASIEST)) hard[79]++;
            wanted("no WORK for a harder TARGET", Model.join(third, hard), Plain.hash(3));
            byte[] wrong = Model.join(Plain.hash(3), new byte[32], Model.bytes(3000), Model.bytes(0x20100000), new byte[8]);
            wanted("BITS that are not right", Model.join(third, wrong), Plain.hash(3));
        });
        Edges.term("DUE; TIME) has its HASH in a GET", () -> {
            byte[] third = Plain.headers(3, 3);
            wanted("BITS that are not DUE", Model.join(third, header(Plain.hash(3), 3000, 0x200FFFFE)), Plain.hash(3));
            // Of four TIMES, with that of the HEADER before it, the third one is the MIDDLE one.
            wanted("the MIDDLE time", Model.join(third, header(Plain.hash(3), Plain.time(2), Lab.EASIEST)), Plain.hash(3));
            byte[] later = header(Plain.hash(3), Plain.time(2) + 1, Lab.EASIEST);
            wanted("a second later", Model.join(third, later), Model.join(Plain.hash(3), Lab.hashOf(later)));
        });
        Edges.term("DUE; TIME) has its HASH in a GET", () -> {
            // BITS change behind block 15, of which node 1 has the HEADER alone.
            byte[] all = new byte[0], hashes = new byte[0], before = Plain.hash(2);
            for (int i = 3; i <= 17; i++) {
                byte[] one = header(before, Plain.time(2) + i, i < 16 ? Lab.EASIEST : 0x2003FFFF);
                before = Lab.hashOf(one);
                all = Model.join(all, one);
                hashes = Model.join(hashes, before);
            }
            wanted("over the change of BITS", all, hashes);
            byte[] easy = header(Arrays.copyOfRange(hashes, 12 * 32, 13 * 32), 3000, Lab.EASIEST);
            wanted("BITS as they were before", Model.join(Arrays.copyOf(all, 13 * 80), easy), Arrays.copyOf(hashes, 13 * 32));
        });
        Edges.term("the first that is not right ends it.", () -> {
            wanted("the first one", Model.join(header(Plain.hash(2), 1000, Lab.EASIEST), Plain.headers(3, 4)), new byte[0]);
            wanted("the second one", Model.join(Plain.headers(3, 3), header(Plain.hash(3), 1000, Lab.EASIEST), Plain.headers(4, 4)), Plain.hash(3));
        });
    }

    // ---- 4 GET

    private static void gets() {
        Edges.term("4 GET: HASHES, 1 .. 16: each that the receiver has STORED it sends as 5 BLOCK, in order.", () -> {
            due("refused", refusedOf(GET, 0, 31, 33, 80, 17 * 32), 5);
            due("refused", refusedOf(GET, 32, 16 * 32), 0);
        });
        Edges.term("4 GET: HASHES, 1 .. 16: each that the receiver has STORED it sends as 5 BLOCK, in order.", () -> {
            House h = pair(3, 0);
            byte[] beside = Plain.fork(Plain.block(0), 1, 4000, 1);
            due("a block beside the chain", h.give(0, beside), 0);
            h.loseAll();
            h.post(1, 0, GET, Model.join(Plain.hashes(3, 9, 0), Lab.hashOf(beside)));
            due("tick(1)", h.tick(1), 1);
            due("messages", h.house(2), 3);
            h.messageIs("block 3", 0, row(0, 1, BLOCK, 2), Plain.block(3));
            h.messageIs("the FIRST one", 1, row(0, 1, BLOCK, 2), Plain.block(0));
            h.messageIs("the one beside", 2, row(0, 1, BLOCK, 2), beside);
        });
        Edges.term("4 GET: HASHES, 1 .. 16: each that the receiver has STORED it sends as 5 BLOCK, in order.", () -> {
            House h = pair(16, 0);
            h.post(1, 0, GET, Plain.hashes(16, 15, 14, 13, 12, 11, 10, 9, 8, 7, 6, 5, 4, 3, 2, 1));
            due("tick(1)", h.tick(1), 1);
            due("messages", h.house(2), 16);
            for (int k : new int[] {0, 15}) {
                due("the highest byte of its TIME", h.messageByte(k, 66), Plain.time(16 - k) >> 8);
                due("the lowest byte of its TIME", h.messageByte(k, 67), Plain.time(16 - k) & 255);
            }
            House none = pair(1, 0);
            none.post(1, 0, GET, Plain.hashes(8, 9));
            due("tick(1)", none.tick(1), 1);
            due("none is STORED", none.house(2), 0);
            due("gone", none.house(4), 0);
        });
    }

    // ---- 5 BLOCK, 6 TRANSACTION

    private static House star() {
        House h = new House(4);
        for (int to = 1; to <= 3; to++) h.link(0, to, to);
        return h;
    }

    private static void blocks() {
        Edges.term("5: it is judged; if it is right it is STORED, and told: the receiver sends TOLD with its HASH to all it is LINKED with, by numbers, but the sender of what it has just received", () -> {
            House h = star();
            h.post(2, 0, BLOCK, Plain.block(1));
            due("tick(2)", h.tick(2), 1);
            due("messages", h.house(2), 2);
            h.messageIs("to 1", 0, row(0, 1, TOLD, 3), Plain.hash(1));
            h.messageIs("to 3", 1, row(0, 3, TOLD, 5), Plain.hash(1));
            h.loseAll();
            h.post(2, 0, BLOCK, Plain.block(1));
            h.post(2, 0, BLOCK, Plain.fork(Plain.block(1), 2, 1000, 1));
            due("tick(2)", h.tick(2), 2);
            due("what is KNOWN, or wrong, is not told", h.house(2), 0);
            due("told(0, 10)", h.told(0, 10), 0);
        });
        Edges.term("but the sender of what it has just received", () -> {
            // The ORPHAN came from node 1, the block before it from node 3.
            House h = star();
            h.post(1, 0, BLOCK, Plain.block(2));
            due("tick(1)", h.tick(1), 1);
            h.loseAll();
            h.post(3, 0, BLOCK, Plain.block(1));
            due("tick(3)", h.tick(3), 1);
            int[][] want = {{1, 1}, {2, 1}, {1, 2}, {2, 2}};
            due("messages", h.house(2), want.length);
            for (int k = 0; k < want.length; k++) h.messageIs("told", k, row(0, want[k][0], TOLD, 4 + want[k][0]), Plain.hash(want[k][1]));
        });
        Edges.term("if it is an ORPHAN, and was none before, it becomes one, and ASK is sent to the sender.", () -> {
            House h = star();
            h.post(1, 0, BLOCK, Plain.block(2));
            due("tick(1)", h.tick(1), 1);
            due("ORPHANS", h.told(0, 6), 1);
            due("messages", h.house(2), 1);
            h.messageIs("ASK", 0, row(0, 1, ASK, 2), Plain.hash(0));
            h.loseAll();
            h.post(2, 0, BLOCK, Plain.block(2));
            due("tick(2)", h.tick(2), 1);
            due("it was one before", h.told(0, 6), 1);
            due("messages", h.house(2), 0);
            due("gone", h.house(4), 0);
        });
        Edges.term("if it is an ORPHAN, and was none before, it becomes one, and ASK is sent to the sender.", () -> {
            // One that went, as the oldest of nine, was none before.
            House h = pair(0, 0);
            byte[] first = Plain.fork(Plain.block(1), 2, 3000, 1);
            due("an ORPHAN", h.give(0, first), 6);
            for (int i = 1; i <= 8; i++) due("an ORPHAN", h.give(0, Plain.fork(Plain.block(1), 2, 3000 + i, 1)), 6);
            h.post(1, 0, BLOCK, first);
            due("tick(1)", h.tick(1), 1);
            due("ORPHANS", h.told(0, 6), 8);
            due("messages", h.house(2), 1);
        });
    }

    private static void transactions() {
        Edges.term("6 TRANSACTION: it is judged for the POOL; if it is TAKEN it is sent on likewise, as it is.", () -> {
            House h = star().grow(0, 1, 4);
            h.loseAll();
            byte[] tx = Plain.draw(0, 1, 1);
            h.post(1, 0, TRANSACTION, tx);
            due("tick(1)", h.tick(1), 1);
            due("in the POOL", h.told(0, 5), 1);
            due("messages", h.house(2), 2);
            h.messageIs("to 2", 0, row(0, 2, TRANSACTION, 3), tx);
            h.messageIs("to 3", 1, row(0, 3, TRANSACTION, 4), tx);
            h.loseAll();
            h.post(1, 0, TRANSACTION, tx);
            h.post(1, 0, TRANSACTION, Plain.draw(0, 2, 1));
            h.post(1, 0, TRANSACTION, Lab.reward(5, 1, 1));
            due("tick(1)", h.tick(1), 3);
            due("what is not TAKEN is not sent on", h.house(2), 0);
            due("told(0, 10)", h.told(0, 10), 0);
            due("in the POOL", h.told(0, 5), 1);
        });
    }

    /** What stood behind a message's last byte in the one before it does not count. */
    private static void shorter() {
        Edges.term("Of the first one that the receiver has not STORED: it sends ASK back (and looks at no more).", () -> {
            House h = pair(0, 0);
            h.post(0, 1, TOLD, Plain.hashes(0, 9));
            h.post(0, 1, TOLD, Plain.hash(0));
            due("tick(1)", h.tick(1), 2);
            due("one ASK", h.house(2), 1);
        });
        Edges.term("nothing, if there are none, or none of the HASHES is on its chain", () -> {
            House h = pair(2, 0);
            h.post(1, 0, ASK, Plain.hashes(9, 0));
            h.post(1, 0, ASK, Plain.hash(8));
            due("tick(1)", h.tick(1), 2);
            due("one with HEADERS", h.house(2), 1);
        });
        Edges.term("If there are HASHES it sends one GET with all.", () -> {
            House h = pair(0, 0);
            h.post(0, 1, HEADERS, Plain.headers(1, 2));
            h.post(0, 1, HEADERS, Plain.headers(1, 1));
            due("tick(1)", h.tick(1), 2);
            h.messageIs("the first", 0, row(1, 0, GET, 2), Plain.hashes(1, 2));
            h.messageIs("the second", 1, row(1, 0, GET, 2), Plain.hash(1));
        });
        Edges.term("4 GET: HASHES, 1 .. 16: each that the receiver has STORED it sends as 5 BLOCK, in order.", () -> {
            House h = pair(2, 0);
            h.post(1, 0, GET, Plain.hashes(1, 2));
            h.post(1, 0, GET, Plain.hash(1));
            due("tick(1)", h.tick(1), 2);
            due("three blocks", h.house(2), 3);
        });
        Edges.term("Bytes of another form than told (how many; 1 FORM of 5, 6) are refused: nothing comes of them.", () -> {
            House h = pair(0, 0);
            h.post(0, 1, BLOCK, Plain.block(2));
            h.post(0, 1, BLOCK, Arrays.copyOf(Plain.block(2), 102));
            h.post(0, 1, TRANSACTION, Plain.draw(0, 1, 1));
            h.post(0, 1, TRANSACTION, Arrays.copyOf(Plain.draw(0, 1, 1), 90));
            due("tick(1)", h.tick(1), 4);
            due("told(1, 10)", h.told(1, 10), 2);
        });
    }

    // ---- refused ones

    private static void refused() {
        Edges.term("Bytes of another form than told (how many; 1 FORM of 5, 6) are refused: nothing comes of them.", () -> {
            due("refused blocks", refusedOf(BLOCK, 0, 32, 80, 81, 103, 104), 6);
            due("refused transactions", refusedOf(TRANSACTION, 0, 1, 2, 22, 91), 5);
        });
        Edges.term("Bytes of another form than told (how many; 1 FORM of 5, 6) are refused: nothing comes of them.", () -> {
            House h = pair(0, 0);
            byte[][] blocks = {Plain.block(1), Lab.with(Plain.block(1), 64, 128), Arrays.copyOf(Plain.block(1), 104), Plain.block(3), Plain.block(0)};
            for (byte[] block : blocks) h.post(0, 1, BLOCK, block);
            due("tick(1)", h.tick(1), 5);
            due("told(1, 9)", h.told(1, 9), 5);
            due("told(1, 10)", h.told(1, 10), 2);
            due("blocks STORED", h.told(1, 1), 2);
            due("ORPHANS", h.told(1, 6), 1);
            due("an ASK for the ORPHAN alone", h.house(2), 1);
        });
        Edges.term("Bytes of another form than told (how many; 1 FORM of 5, 6) are refused: nothing comes of them.", () -> {
            // As many bytes as a message may have.
            for (int kind = TOLD; kind <= TRANSACTION; kind++) {
                House h = pair(0, 0);
                due("post of 4000 as KIND " + kind, h.post(0, 1, kind, new byte[4000]), 1);
                due("tick(1)", h.tick(1), 1);
                due("told(1, 10)", h.told(1, 10), 1);
                due("messages", h.house(2), 0);
            }
        });
    }

    public static void main(String[] args) {
        all();
        Edges.run();
    }
}
