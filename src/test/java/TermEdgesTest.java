import java.nio.ByteBuffer;
import java.util.Arrays;

/** Edges of what the document is, of part 1 of its terms, of THE TAPE, THE DRAFT, TRIES and ANSWERS below 0. */
public final class TermEdgesTest {
    private static final int BAD = Edges.BAD, IS_DOWN = Edges.IS_DOWN, FULL = Edges.FULL, NO = Edges.NO;
    /** Addresses for which what is signed has a hash that begins with three bytes 0, or three of 255. */
    private static final long ALL_ZEROS = 13313437L, ALL_ONES = 4408730L;

    private static void due(String what, long got, long want) {
        Edges.due(what, got, want);
    }

    static void all() {
        calls();
        laterCalls();
        hashes();
        keys();
        signatures();
        bounds();
        answers();
        order();
    }

    // ---- what it is

    private static void calls() {
        Edges.term("An object is used for at most 512 calls after it has been made", () -> {
            House h = new House(1).grow(0, 1, 100);
            while (h.calls() < 509) due("told(0, 1)", h.told(0, 1), 101);
            due("the 510th call", h.assemble(0, 0, Plain.time(101)), 103);
            Edges.must("the 511th call", h.solve(0, 2000) > 0);
            due("the 512th call", h.give(0, 5), 0);
            due("calls", h.calls(), 512);
        });
        Edges.term("what later calls answer is free.", () -> {
            // They end, and none throws.
            ChainHouse x = new ChainHouse(2);
            x.link(0, 1, 1);
            for (int i = 0; i < 1000; i++) {
                x.assemble(i % 2, i, x.due(i % 2, 1) + 11);
                x.solve(0, 2000);
                x.give(i % 2, 5);
                x.feed(i, i, i, i, i);
                x.post(0, 1, 1 + i % 6);
                x.tick(1 + i % 64);
            }
            Edges.must("all calls ended", x.house(0) == 2);
        });
    }

    /** Every call there is with odd numbers, far behind the 512th. */
    private static void laterCalls() {
        Edges.term("and nothing about an object after its 512th call.", () -> {
            ChainHouse x = new ChainHouse(6);
            int[] odd = {Integer.MIN_VALUE, -1, 0, 1, 5, 6, 64, 200, 4000, 12287, 12288, Integer.MAX_VALUE};
            long sum = 0;
            for (int a : odd) {
                for (int b : odd) {
                    sum += x.feed(a, b, a, b, a) + x.cut(b) + x.turn(a, b) + x.hash(true, a) + x.part(a, b, b) + x.input(a, b, a)
                        + x.spend(a, b, a) + x.output(a, b) + x.pay(a, b) + x.sign(a) + x.take(a, b) + x.assemble(a, b, b) + x.root()
                        + x.solve(a, b) + x.judge(a, b) + x.give(a, b) + x.post(a, b, a) + x.link(a, b, 1) + x.tick(a) + x.message(a, b)
                        + x.messageByte(a, b) + x.alter(a, b, a) + x.lose(a) + x.down(a) + x.up(b) + x.fuse(a, b) + x.peek(a, b)
                        + x.poke(a, b, a) + x.told(a, b) + x.house(a) + x.block(a, b, b) + x.limb(a, b, b) + x.at(a, b) + x.unspent(a, b, b)
                        + x.find(a, b, b) + x.balance(a, b) + x.pooled(a, b, b) + x.due(a, b) + x.begin() + x.address(a);
                }
            }
            Edges.must("all calls ended", sum != 0 || x.house(0) == 6);
        });
    }

    // ---- 1 HASHES AND KEYS

    private static byte[] counted(int n) {
        byte[] all = new byte[n];
        for (int i = 0; i < n; i++) all[i] = (byte) (i * 7 + n);
        return all;
    }

    private static void hashes() {
        Edges.term("BYTES of numbers stand the highest first.", () -> {
            House h = new House(1);
            h.output(0x0102030405060708L, 0x1112131415161718L);
            h.sign(0x21222324);
            byte[] want = {0, 1, 0x21, 0x22, 0x23, 0x24, 1, 2, 3, 4, 5, 6, 7, 8, 0x11, 0x12, 0x13, 0x14, 0x15, 0x16, 0x17, 0x18};
            for (int i = 0; i < want.length; i++) due("byte " + i, h.turn(i, 0), want[i]);
        });
        Edges.term("behind the bytes come a byte 128, as few bytes 0 as make all (with the next 8) a multiple of 64, and the number of bits (8 bytes)", () -> {
            for (int n : new int[] {0, 1, 54, 55, 56, 57, 63, 64, 65, 118, 119, 120, 121, 127, 128, 129, 4000}) {
                new House(1).load(counted(n)).tapeIs("the hash of " + n, counted(n));
            }
        });
        Edges.term("then each of V0 .. V7 gets its letter added (all modulo 2^32)", () -> {
            byte[] ones = new byte[200];
            Arrays.fill(ones, (byte) 255);
            new House(1).load(ones).tapeIs("bytes 255", ones);
            new House(1).load(new byte[200]).tapeIs("bytes 0", new byte[200]);
        });
        Edges.term("SHORT(bytes) is the first 8 bytes of H(bytes) as a long.", () -> {
            House h = new House(1);
            int below = 0;
            for (long seed = 0; seed < 20; seed++) {
                long want = ByteBuffer.wrap(Model.h(Model.bytes(seed), new byte[] {3})).getLong();
                due("part(" + seed + ", 3, 0)", h.part(seed, 3, 0), want);
                if (want < 0) below++;
            }
            Edges.must("some are below 0, some are not", below > 0 && below < 20);
        });
    }

    private static void keys() {
        Edges.term("A KEY belongs to a SEED, any long.", () -> {
            House h = new House(1);
            for (long seed : new long[] {Long.MIN_VALUE, -1, 0, 1, Long.MAX_VALUE}) {
                due("address(" + seed + ")", h.address(seed), Model.keyAddress(seed));
                due("part(" + seed + ", 0, 0)", h.part(seed, 0, 0), Model.keyPart(seed, 0, 0));
            }
        });
        Edges.term("It has PARTS 0 .. 7: part i begins with SHORT(the SEED's 8 bytes, a byte i).", () -> {
            House h = new House(1);
            for (int i = 0; i < 8; i++) due("part(5, " + i + ", 0)", h.part(5, i, 0), Model.shortOf(Model.bytes(5L), new byte[] {(byte) i}));
            for (int i : new int[] {-1, 8}) due("part(5, " + i + ", 0)", h.part(5, i, 0), 0);
        });
        Edges.term("A STEP j (0 .. 14) of part i makes of a long v SHORT(v's 8 bytes, a byte i, a byte 16 + j).", () -> {
            House h = new House(1);
            for (int i : new int[] {0, 7}) {
                for (int j : new int[] {0, 14}) {
                    long v = h.part(5, i, j);
                    due("step " + j, h.part(5, i, j + 1), Model.shortOf(Model.bytes(v), new byte[] {(byte) i, (byte) (16 + j)}));
                }
                due("there is no step 15", h.part(5, i, 16), 0);
            }
        });
        Edges.term("Its END is what comes behind steps 0 .. 14. The ADDRESS is SHORT of the eight ENDS' bytes.", () -> {
            House h = new House(1);
            ByteBuffer ends = ByteBuffer.allocate(64);
            for (int i = 0; i < 8; i++) ends.putLong(h.part(-9, i, 15));
            due("address(-9)", h.address(-9), Model.shortOf(ends.array()));
        });
    }

    /** A transaction of coin 0 with an output of 1 to an address, signed by seed 0 with these digits. */
    private static byte[] signedBy(long address, int... digits) {
        ByteBuffer b = ByteBuffer.allocate(91).put((byte) 1).put((byte) 1).putLong(Plain.coin(0)).put((byte) 0);
        for (int j = 0; j < 8; j++) b.putLong(Model.keyPart(0, j, digits[j]));
        return b.putLong(1).putLong(address).array();
    }

    private static House signing(long address) {
        House h = new House(1).grow(0, 1, 3);
        h.input(Plain.coin(0), 0, 0);
        h.output(1, address);
        due("sign", h.sign(0), 91);
        return h;
    }

    private static void signatures() {
        Edges.term("A message has eight DIGITS: the six of base 16 of the first 3 bytes of its H", () -> {
            signing(ALL_ZEROS).tapeIs("the least digits", signedBy(ALL_ZEROS, 0, 0, 0, 0, 0, 0, 5, 10));
        });
        Edges.term("then C / 16 and C modulo 16, C being the sum of 15 less each of the six.", () -> {
            // C is 90 at most, and 0 at least.
            due("C of 90", signing(ALL_ZEROS).judge(0, 6), 0);
            signing(ALL_ONES).tapeIs("the greatest digits", signedBy(ALL_ONES, 15, 15, 15, 15, 15, 15, 0, 0));
        });
        Edges.term("Its SIGNATURE: of each part the long behind the first DIGIT i many steps (64 bytes in all).", () -> {
            due("no steps, and all of them", signing(ALL_ONES).judge(0, 6), 0);
        });
        Edges.term("It is of an ADDRESS, if the steps from DIGIT i to 14 lead to ends whose ADDRESS that is.", () -> {
            for (long address : new long[] {ALL_ZEROS, ALL_ONES}) {
                House h = signing(address);
                for (int j = 0; j < 8; j++) {
                    h.turn(2 + 9 + 8 * j + 7, 1);
                    due("a bit of part " + j, h.judge(0, 6), 11);
                    h.turn(2 + 9 + 8 * j + 7, 1);
                    h.turn(2 + 9 + 8 * j, 128);
                    due("the highest bit of part " + j, h.judge(0, 6), 11);
                    h.turn(2 + 9 + 8 * j, 128);
                }
                due("as it was", h.judge(0, 6), 0);
            }
            int[] one = {0, 0, 0, 0, 0, 0, 5, 9};
            due("one step too few", new House(1).grow(0, 1, 3).judgeTx(0, signedBy(ALL_ZEROS, one)), 11);
            int[] more = {0, 0, 0, 0, 0, 1, 5, 10};
            due("one step too many", new House(1).grow(0, 1, 3).judgeTx(0, signedBy(ALL_ZEROS, more)), 11);
        });
    }

    // ---- the tape, the draft, tries

    private static void bounds() {
        Edges.term("THE TAPE has at most 4000 bytes.", () -> {
            House h = new House(1);
            for (int n = 20; n <= 4000; n += 20) due("feed", h.feed(0, 0, 0, 0, 0), n);
            due("feed", h.feed(0, 0, 0, 0, 0), FULL);
            due("turn(3999, 1)", h.turn(3999, 1), 1);
            due("turn(4000, 1)", h.turn(4000, 1), BAD);
        });
        Edges.term("THE DRAFT has INPUTS with SEEDS, and OUTPUTS.", () -> {
            House h = new House(1);
            for (int i = 1; i <= 4; i++) due("input", h.input(i, 0, 0), i);
            due("input", h.input(5, 0, 0), FULL);
            for (int i = 1; i <= 4; i++) due("output", h.output(i, 0), i);
            due("output", h.output(5, 0), FULL);
            due("pay", h.pay(5, 0), FULL);
        });
        Edges.term("TRIES are 200000 in all.", () -> {
            House h = new House(1).load(ByteBuffer.allocate(80).putInt(68, 0x04008000).array());
            for (int left = 198000; left >= 0; left -= 2000) {
                due("solve", h.solve(0, 2000), NO);
                due("TRIES left", h.house(8), left);
            }
            due("solve", h.solve(0, 1), FULL);
        });
    }

    // ---- answers below 0

    private static long allRefused(House h) {
        h.cut(41);
        h.turn(40, 1);
        h.input(1, 4, 1);
        h.spend(9, 0, 0);
        h.spend(2, 0, 0);
        h.take(0, 6);
        h.take(2, 0);
        h.assemble(0, 0, 1000);
        h.assemble(2, 0, 5000);
        h.root();
        h.solve(0, 1);
        h.judge(0, 7);
        h.give(2, 5);
        h.give(0, 4);
        h.post(0, 0, 1);
        h.link(0, 1, 10);
        h.tick(65);
        h.alter(9, 0, 1);
        h.lose(6);
        h.down(2);
        h.up(0);
        h.fuse(2, 1);
        h.fuse(3, 1);
        h.poke(0, 12288, 1);
        return h.find(0, 1, 1);
    }

    private static void answers() {
        Edges.term("ANSWERS below 0 are refusals and change nothing", () -> Edges.refused("find(0, 1, 1)", TermEdgesTest::allRefused, NO));
        Edges.term("BAD: there is no such node, block, place, byte, message, or a number is none told", () -> {
            House h = new House(6);
            for (int node : new int[] {-1, 6}) {
                long[] got = {h.spend(node, 0, 0), h.take(node, 0), h.assemble(node, 0, 2000), h.judge(node, 5), h.give(node, 5),
                    h.post(node, 0, 1), h.post(0, node, 1), h.link(node, 0, 1), h.link(0, node, 1), h.down(node), h.up(node),
                    h.fuse(node, 1), h.peek(node, 0), h.poke(node, 0, 0), h.told(node, 0), h.block(node, 0, 0), h.at(node, 0),
                    h.find(node, 0, 0), h.due(node, 0)};
                for (int i = 0; i < got.length; i++) due("call " + i + " of node " + node, got[i], BAD);
            }
        });
        Edges.term("BAD: there is no such node, block, place, byte, message, or a number is none told", () -> {
            House h = new House(1);
            h.feed(1, 2, 3, 4, 5);
            for (int i : new int[] {-1, 1}) {
                long[] got = {h.spend(0, i, 0), h.take(0, i), h.block(0, i, 0), h.at(0, i), h.message(i, 0), h.messageByte(i, 0),
                    h.alter(i, 0, 0), h.lose(i), h.turn(i < 0 ? i : 20, 0), h.peek(0, i < 0 ? i : 12288), h.poke(0, i < 0 ? i : 12288, 0)};
                for (int k = 0; k < got.length; k++) due("call " + k + " of " + i, got[k], BAD);
            }
        });
        Edges.term("BAD: there is no such node, block, place, byte, message, or a number is none told", () -> {
            House h = new House(2);
            h.link(0, 1, 1);
            h.post(0, 1, 1);
            long[] got = {h.input(0, -1, 0), h.input(0, 4, 0), h.judge(0, 4), h.judge(0, 7), h.give(0, 4), h.give(0, 7), h.post(0, 1, 0),
                h.post(0, 1, 7), h.link(0, 1, -1), h.link(0, 1, 10), h.tick(0), h.tick(65), h.message(0, -1), h.message(0, 5),
                h.told(0, -1), h.told(0, 11), h.house(-1), h.house(9), h.block(0, 0, -1), h.block(0, 0, 7), h.due(0, -1), h.due(0, 3),
                h.cut(-1), h.cut(1)};
            for (int k = 0; k < got.length; k++) due("call " + k, got[k], BAD);
        });
        Edges.term("FULL: no room", () -> {
            House h = new House(1);
            for (int i = 0; i < 200; i++) h.feed(0, 0, 0, 0, 0);
            for (int i = 0; i < 4; i++) h.input(0, 0, 0);
            for (int i = 0; i < 4; i++) h.output(0, 0);
            long[] got = {h.feed(0, 0, 0, 0, 0), h.input(0, 0, 0), h.spend(0, 0, 0), h.output(0, 0), h.pay(0, 0)};
            for (int k = 0; k < got.length; k++) due("call " + k, got[k], FULL);
        });
        Edges.term("NO as told.", () -> {
            House h = new House(1);
            long[] got = {h.root(), h.up(0), h.told(0, 8), h.block(0, 0, 0), h.find(0, 1, 1)};
            for (int k = 0; k < got.length; k++) due("call " + k, got[k], NO);
        });
    }

    private static void order() {
        Edges.term("IS_DOWN: the node is DOWN (blocks, places, TIMES are not looked at then)", () -> {
            House h = new House(2);
            h.down(1);
            for (int i : new int[] {0, -1, 99, Integer.MIN_VALUE}) {
                long[] got = {h.spend(1, i, 0), h.take(1, i), h.assemble(1, 0, i), h.block(1, i, 0), h.at(1, i), h.find(1, i, i),
                    h.fuse(1, i), h.judge(1, 5), h.give(1, 6), h.down(1), h.due(1, 2)};
                for (int k = 0; k < got.length; k++) due("call " + k + " of " + i, got[k], IS_DOWN);
            }
        });
        Edges.term("The first that fits, in this order.", () -> {
            // BAD for a number that is none told comes before IS_DOWN.
            House h = new House(2);
            h.down(1);
            long[] got = {h.judge(1, 4), h.give(1, 7), h.block(1, 0, 7), h.block(1, 0, -1), h.due(1, 3), h.due(1, -1), h.told(1, 11)};
            for (int k = 0; k < got.length; k++) due("call " + k, got[k], BAD);
        });
        Edges.term("The first that fits, in this order.", () -> {
            // BAD, then IS_DOWN, come before FULL.
            House h = new House(2);
            h.down(1);
            for (int i = 0; i < 4; i++) h.input(0, 0, 0);
            due("input of place 4", h.input(0, 4, 0), BAD);
            due("spend of no node", h.spend(2, 0, 0), BAD);
            due("spend of nothing", h.spend(0, 1, 0), BAD);
            due("spend of a node that is DOWN", h.spend(1, 0, 0), IS_DOWN);
            due("spend", h.spend(0, 0, 0), FULL);
        });
        Edges.term("The first that fits, in this order.", () -> {
            // BAD and IS_DOWN come before NO.
            House h = new House(2);
            h.down(1);
            due("find of no node", h.find(2, 1, 1), BAD);
            due("find of a node that is DOWN", h.find(1, 1, 1), IS_DOWN);
            due("find", h.find(0, 1, 1), NO);
            due("told of no node", h.told(2, 8), BAD);
            due("told of a node that is DOWN", h.told(1, 1), NO);
            due("up of no node", h.up(2), BAD);
        });
        Edges.term("The first that fits, in this order.", () -> {
            // solve: BAD comes before FULL, FULL before NO.
            House h = new House(1).load(ByteBuffer.allocate(80).putInt(68, 0x04008000).array());
            for (int i = 0; i < 100; i++) h.solve(0, 2000);
            due("solve(0, 0)", h.solve(0, 0), BAD);
            due("solve(0, 2001)", h.solve(0, 2001), BAD);
            due("solve(0, 1)", h.solve(0, 1), FULL);
            h.turn(68, 4);
            due("solve(0, 1) of BITS that are not right", h.solve(0, 1), BAD);
            h.turn(68, 4);
            h.cut(1);
            due("solve(0, 1) of 79 bytes", h.solve(0, 1), BAD);
        });
    }

    public static void main(String[] args) {
        all();
        Edges.run();
    }
}
