import java.math.BigInteger;
import java.nio.ByteBuffer;
import java.util.Arrays;

/** How H is made, where each byte of a transaction and of a block stands, and what comes behind what. */
public final class LayoutEdgesTest {
    private static final int BAD = Edges.BAD;
    private static final int[] FIRST_V = roots(2, 8), FIRST_K = roots(3, 64);

    private static void due(String what, long got, long want) {
        Edges.due(what, got, want);
    }

    static void all() {
        hashes();
        transactions();
        blocks();
        targets();
        judging();
        storing();
        messages();
    }

    // ---- H, as the document tells it

    private static boolean isPrime(int p) {
        for (int d = 2; d * d <= p; d++) if (p % d == 0) return false;
        return true;
    }

    /** The greatest number whose power is at most this one. */
    private static BigInteger root(BigInteger of, int power) {
        BigInteger low = BigInteger.ZERO, high = of;
        while (low.compareTo(high) < 0) {
            BigInteger middle = low.add(high).add(BigInteger.ONE).shiftRight(1);
            if (middle.pow(power).compareTo(of) <= 0) low = middle;
            else high = middle.subtract(BigInteger.ONE);
        }
        return low;
    }

    /** The first 32 bits behind the point of the roots of the first primes. */
    private static int[] roots(int power, int many) {
        int[] all = new int[many];
        int p = 2;
        for (int i = 0; i < many; p++) {
            if (!isPrime(p)) continue;
            all[i] = root(BigInteger.valueOf(p).shiftLeft(32 * power), power).intValue();
            i++;
        }
        return all;
    }

    private static int turned(int x, int by) {
        return Integer.rotateRight(x, by);
    }

    private static int[] words(byte[] all, int from) {
        int[] w = new int[64];
        ByteBuffer b = ByteBuffer.wrap(all, from, 64);
        for (int i = 0; i < 16; i++) w[i] = b.getInt();
        for (int i = 16; i < 64; i++) {
            int s1 = turned(w[i - 2], 17) ^ turned(w[i - 2], 19) ^ w[i - 2] >>> 10;
            int s0 = turned(w[i - 15], 7) ^ turned(w[i - 15], 18) ^ w[i - 15] >>> 3;
            w[i] = s1 + w[i - 7] + s0 + w[i - 16];
        }
        return w;
    }

    /** The letters a .. h behind the 64 times. */
    private static int[] letters(int[] v, int[] w) {
        int[] l = v.clone();
        for (int i = 0; i < 64; i++) {
            int a = l[0], b = l[1], c = l[2], e = l[4], f = l[5], g = l[6];
            int t = l[7] + (turned(e, 6) ^ turned(e, 11) ^ turned(e, 25)) + (e & f ^ ~e & g) + FIRST_K[i] + w[i];
            int u = (turned(a, 2) ^ turned(a, 13) ^ turned(a, 22)) + (a & b ^ a & c ^ b & c);
            l = new int[] {t + u, a, b, c, l[3] + t, e, f, g};
        }
        return l;
    }

    private static byte[] h(byte[] bytes) {
        int length = bytes.length + 1;
        while ((length + 8) % 64 != 0) length++;
        byte[] all = Arrays.copyOf(bytes, length + 8);
        all[bytes.length] = (byte) 128;
        ByteBuffer.wrap(all).putLong(length, 8L * bytes.length);
        int[] v = FIRST_V.clone();
        for (int from = 0; from < all.length; from += 64) {
            int[] l = letters(v, words(all, from));
            for (int i = 0; i < 8; i++) v[i] += l[i];
        }
        ByteBuffer out = ByteBuffer.allocate(32);
        for (int x : v) out.putInt(x);
        return out.array();
    }

    private static void hashIs(House x, String what, byte[] bytes) {
        x.reload(bytes);
        ByteBuffer once = ByteBuffer.wrap(h(bytes)), twice = ByteBuffer.wrap(h(h(bytes)));
        for (int k = 0; k < 4; k++) {
            due("hash(false, " + k + ") of " + what, x.hash(false, k), once.getLong());
            due("hash(true, " + k + ") of " + what, x.hash(true, k), twice.getLong());
        }
    }

    private static void hashes() {
        Edges.term("H(bytes) is the 32 bytes of SHA-256:", () -> {
            House x = new House(1).load(new byte[] {'a', 'b', 'c'});
            long[] want = {0xba7816bf8f01cfeaL, 0x414140de5dae2223L, 0xb00361a396177a9cL, 0xb410ff61f20015adL};
            for (int k = 0; k < 4; k++) due("limb " + k + " of H(abc)", x.hash(false, k), want[k]);
        });
        Edges.term("V0 .. V7 are at first the first 32 bits behind the point of the square roots of the first eight primes, "
            + "K0 .. K63 those of the cube roots of the first 64;", () -> {
            hashIs(new House(1), "nothing", new byte[0]);
            hashIs(new House(1), "a byte", new byte[] {1});
        });
        Edges.term("for each 64 bytes: W0 .. W15 are their words of 32 bits, Wi = s1(W(i - 2)) + W(i - 7) + s0(W(i - 15)) + W(i - 16), "
            + "s0(x) being x turned right by 7, xor by 18, xor x shifted right by 3, s1 likewise 17, 19, 10;", () -> {
            House x = new House(1);
            for (int i = 0; i < 16; i++) {
                byte[] bytes = new byte[64];
                bytes[4 * i] = (byte) 0x81;
                bytes[4 * i + 3] = (byte) (17 * i + 1);
                hashIs(x, "word " + i, bytes);
            }
            hashIs(x, "three times 64 bytes", Plain.headers(1, 3));
        });
        Edges.term("a .. h are V0 .. V7; 64 times, with i = 0 ..: T = h + (e turned right by 6, xor by 11, xor by 25) + ((e and f) xor (not e and g)) "
            + "+ Ki + Wi; U = (a turned right by 2, xor by 13, xor by 22) + ((a and b) xor (a and c) xor (b and c)); "
            + "h, g, f become g, f, e; e becomes d + T; d, c, b become c, b, a; a becomes T + U;", () -> {
            House x = new House(1);
            for (int fill : new int[] {0, 255, 0x55, 0xAA, 128}) {
                byte[] bytes = new byte[100];
                Arrays.fill(bytes, (byte) fill);
                hashIs(x, "bytes " + fill, bytes);
            }
        });
    }

    // ---- a transaction

    private static final long ID_A = 0x0102030405060708L, ID_B = 0xF1F2F3F4F5F6F7F8L, TO = 0x8090A0B0C0D0E0F0L;

    /** Two INPUTS of an ID, a place and eight bytes of each part, two OUTPUTS, put down byte by byte. */
    private static byte[] twoAndTwo() {
        ByteBuffer b = ByteBuffer.allocate(2 + 2 * 73 + 2 * 16);
        b.put((byte) 2).put((byte) 2);
        b.putLong(ID_A).put((byte) 3).put(new byte[64]);
        b.putLong(ID_B).put((byte) 0).put(new byte[64]);
        b.putLong(0x1122334455667788L).putLong(TO);
        b.putLong(1).putLong(Model.keyAddress(6));
        int[] digits = Model.digits(b.array());
        for (int i = 0; i < 8; i++) {
            b.putLong(11 + 8 * i, Model.keyPart(4, i, digits[i]));
            b.putLong(84 + 8 * i, Model.keyPart(5, i, digits[i]));
        }
        return b.array();
    }

    private static void transactions() {
        Edges.term("A TRANSACTION:", () -> {
            House x = new House(1);
            x.pay(1, 6);
            due("the bytes of the least one", x.sign(0), 2 + 4 + 16);
            x.input(ID_A, 0, 1);
            due("the bytes of one with an INPUT", x.sign(0), 2 + 73 + 16);
        });
        Edges.term("; the INPUTS, each: an ID (8 bytes),", () -> {
            House x = new House(1);
            x.input(ID_A, 3, 4);
            x.input(ID_B, 0, 5);
            x.output(0x1122334455667788L, TO);
            x.pay(1, 6);
            due("sign(0)", x.sign(0), twoAndTwo().length);
            x.tapeIs("two INPUTS and two OUTPUTS", twoAndTwo());
        });
        Edges.term(", a SIGNATURE (64); the OUTPUTS, each: an AMOUNT (8 bytes), an ADDRESS (8).", () -> {
            House x = new House(1).grow(0, 1, 5);
            byte[] tx = Lab.tx(Lab.ins(Plain.coin(0), 0, 0, Plain.coin(1), 0, 0), 5, 8, 6, 9);
            due("the transaction", x.judgeTx(0, tx), 0);
            due("its block", x.give(0, Plain.behind(5, Lab.reward(6, 1, 1), tx)), 0);
            int at = x.find(0, Lab.idOf(tx), 0);
            due("AMOUNT", x.unspent(0, at, 2), 5);
            due("ADDRESS", x.unspent(0, at, 3), Model.keyAddress(8));
            due("AMOUNT of the next", x.unspent(0, at + 1, 2), 6);
            due("ADDRESS of the next", x.unspent(0, at + 1, 3), Model.keyAddress(9));
        });
    }

    // ---- a block

    /** Where the parts of a block stand. */
    private static byte[] putDown(byte[] before, byte[] root, int time, int bits, long nonce, byte[]... txs) {
        ByteBuffer b = ByteBuffer.allocate(81 + Model.join(txs).length);
        b.put(before).put(root).putInt(time).putInt(bits).putLong(nonce).put((byte) txs.length);
        for (byte[] tx : txs) b.put(tx);
        return b.array();
    }

    private static void blocks() {
        Edges.term("A BLOCK: a HEADER of 80 bytes: the HASH of the block before (32), ROOT (32),", () -> {
            House x = new House(1).grow(0, 1, 2);
            byte[] reward = Lab.reward(3, 4096, 6);
            due("assemble(0, 6, 5000)", x.assemble(0, 6, 5000), 103);
            x.tapeIs("it", putDown(Plain.hash(2), Model.hh(reward), 5000, Lab.EASIEST, 0, reward));
        });
        Edges.term(", BITS (4), NONCE (8);", () -> {
            House x = new House(1).grow(0, 1, 2);
            byte[] reward = Lab.reward(3, 4096, 6);
            byte[] want = Lab.work(putDown(Plain.hash(2), Model.hh(reward), 5000, Lab.EASIEST, 0, reward));
            x.assemble(0, 6, 5000);
            Edges.must("it has work", x.solve(0, 2000) > 0);
            x.tapeIs("it with its NONCE", want);
            due("it is STORED", x.give(0, 5), 0);
            due("BITS", x.block(0, 3, 3), Lab.EASIEST);
            due("NONCE", x.limb(0, 3, 12), ByteBuffer.wrap(want).getLong(72));
        });
        Edges.term("; these.", () -> {
            House x = new House(1).grow(0, 1, 5);
            byte[] reward = Lab.reward(6, 4096 + 4091 + 4090, 6), little = Plain.draw(0, 6, 1), much = Plain.draw(1, 5, 1);
            x.giveTx(0, little);
            x.giveTx(0, much);
            due("assemble(0, 6, 5000)", x.assemble(0, 6, 5000), 103 + 2 * 91);
            byte[] root = Model.hh(Model.hh(Model.hh(reward), Model.hh(much)), Model.hh(little));
            x.tapeIs("three, one behind the other", putDown(Plain.hash(5), root, 5000, Lab.EASIEST, 0, reward, much, little));
        });
        Edges.term("ROOT: a row of H(H(TRANSACTION)) each;", () -> {
            House x = new House(1).load(putDown(Plain.hash(0), new byte[32], 5000, Lab.EASIEST, 0, twoAndTwo()));
            due("root()", x.root(), 1);
            x.tapeIs("a ROOT of one", putDown(Plain.hash(0), h(h(twoAndTwo())), 5000, Lab.EASIEST, 0, twoAndTwo()));
            due("root() again", x.root(), 0);
        });
        Edges.term(": of those behind the block before:", () -> {
            House x = new House(1).grow(0, 1, 5);
            long[] ids = new long[6];
            for (int i = 0; i < 6; i++) ids[i] = x.unspent(0, i, 0);
            due("a block that spends one", x.give(0, Plain.behind(5, Lab.reward(6, 1, 1), Plain.draw(1, 5, 1))), 0);
            for (int i = 0; i < 5; i++) due("what stays, " + i, x.unspent(0, i, 0), ids[i < 1 ? i : i + 1]);
        });
    }

    private static void targets() {
        Edges.term("BITS are e, the highest byte, and m, the others:", () -> {
            for (int bits : new int[] {0x20008000, 0x2000FF01, 0x1F7FFFFF, 0x1F123456}) {
                byte[] header = putDown(Plain.hash(0), new byte[32], 5000, bits, 0);
                House x = new House(1).load(header);
                byte[] want = Lab.work(header);
                long tries = 0;
                int took = Edges.NO;
                for (long from = 0; took == Edges.NO && from < 100000; from += 2000) {
                    took = x.solve(from, 2000);
                    tries += took == Edges.NO ? 2000 : took;
                }
                due("the least NONCE of " + Integer.toHexString(bits), tries - 1, ByteBuffer.wrap(want).getLong(72));
                x.tapeIs("the header", want);
            }
        });
    }

    // ---- judging

    private static void judging() {
        Edges.term("A TRANSACTION is judged behind what is UNSPENT at a HEIGHT:", () -> {
            byte[] tx = Plain.draw(0, 4096, 1);
            House x = new House(1).grow(0, 1, 2);
            due("at HEIGHT 3", x.judgeTx(0, tx), 10);
            x.grow(0, 3, 3);
            due("at HEIGHT 4", x.judgeTx(0, tx), 0);
            due("a block that spends it", x.give(0, Plain.behind(3, Lab.reward(4, 1, 1), Plain.draw(0, 1, 1))), 0);
            due("behind that block", x.judgeTx(0, tx), 10);
        });
        Edges.term("; 10 INPUT; 11; 12; 13;", () -> {
            House x = new House(1).grow(0, 1, 5);
            byte[] tx = Plain.draw(0, 4097, 1), right = Plain.draw(0, 4096, 1);
            due("nothing is right of it", x.judgeTx(0, Lab.with(Lab.with(tx, 9, tx[9] ^ 1), 20, tx[20] ^ 1)), 10);
            due("its INPUT is", x.judgeTx(0, Lab.with(tx, 20, tx[20] ^ 1)), 11);
            due("its SIGNATURE is, too", x.judgeTx(0, tx), 12);
            due("all of it is", x.judgeTx(0, right), 0);
            Inside.nameCoin(x, 0, 5, Lab.idOf(right));
            due("its ID is there already", x.judgeTx(0, right), 13);
            due("it is not taken", x.giveTx(0, right), 13);
            due("the POOL", x.told(0, 5), 0);
        });
    }

    // ---- what comes behind what

    private static void storing() {
        Edges.term("When a block is STORED:", () -> {
            // One that is judged only, or is an ORPHAN, or is wrong, changes neither the POOL nor what is told.
            House x = new House(2).grow(0, 1, 3);
            x.link(0, 1, 1);
            x.giveTx(0, Plain.draw(0, 1, 1));
            byte[] block = Plain.behind(3, Lab.reward(4, 1, 1), Plain.draw(0, 1, 1));
            due("judged", x.judge(0, block), 0);
            due("an ORPHAN", x.give(0, Plain.block(9)), 6);
            due("a wrong one", x.give(0, Plain.behind(3, Lab.reward(5, 1, 1), Plain.draw(0, 1, 1))), 9);
            due("the POOL", x.told(0, 5), 1);
            due("messages", x.house(2), 1);
            due("STORED", x.give(0, block), 0);
            due("the POOL then", x.told(0, 5), 0);
            due("messages then", x.house(2), 2);
        });
        Edges.term("(see below); then it is told (part 4);", () -> {
            // The POOL is made anew before each is told, and each is told before the ORPHANS behind it are judged.
            House x = new House(2).grow(0, 1, 4);
            x.link(0, 1, 1);
            x.giveTx(0, Plain.draw(0, 1, 1));
            x.giveTx(0, Plain.draw(1, 1, 1));
            x.loseAll();
            byte[] five = Plain.behind(4, Lab.reward(5, 1, 1), Plain.draw(0, 1, 1));
            byte[] six = Lab.craft(Lab.hashOf(five), 5000, Lab.EASIEST, Lab.reward(6, 1, 1), Plain.draw(1, 1, 1));
            due("the second one, an ORPHAN", x.give(0, six), 6);
            due("the first one", x.give(0, five), 0);
            due("the POOL", x.told(0, 5), 0);
            due("the TIP", x.told(0, 3), 6);
            x.messageIs("first", 0, new int[] {0, 1, 1, 1}, Lab.hashOf(five));
            x.messageIs("then", 1, new int[] {0, 1, 1, 1}, Lab.hashOf(six));
            due("no more", x.house(2), 2);
        });
    }

    private static void messages() {
        Edges.term("A message has a sender, a receiver, a KIND, bytes,", () -> {
            House x = new House(3);
            x.link(2, 1, 7);
            x.tick(5);
            byte[] bytes = {9, 8, 7, -1};
            for (int kind = 1; kind <= 6; kind++) due("post", x.post(2, 1, kind, bytes), 1);
            for (int kind = 1; kind <= 6; kind++) x.messageIs("KIND " + kind, kind - 1, new int[] {2, 1, kind, 12}, bytes);
            due("KIND 0", x.load(bytes).post(2, 1, 0), BAD);
            due("KIND 7", x.post(2, 1, 7), BAD);
            due("messages", x.house(2), 6);
        });
    }

    public static void main(String[] args) {
        all();
        Edges.run();
    }
}
