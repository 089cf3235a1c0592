import java.nio.ByteBuffer;
import java.util.Arrays;

/** Edges of how transactions and blocks are judged, in parts 2 and 3 of the terms. */
public final class JudgeEdgesTest {
    private static final long MOST = 1L << 40, FOURTH = 1L << 62;
    /** No plain coin. */
    private static final long NOBODYS = 77;

    private static void due(String what, long got, long want) {
        Edges.due(what, got, want);
    }

    static void all() {
        inputs();
        signatures();
        amounts();
        twice();
        forms();
        heads();
        headers();
        bodies();
        pays();
        blockOrder();
        pools();
        poolOrder();
    }

    // ---- a house with eight plain blocks: coins 0 to 5 are ripe for block 9

    private static House eight() {
        return new House(1).grow(0, 1, 8);
    }

    private static byte[] nine(byte[]... others) {
        byte[][] all = new byte[others.length + 1][];
        all[0] = Lab.reward(9, 4096, 7);
        System.arraycopy(others, 0, all, 1, others.length);
        return Plain.behind(8, all);
    }

    /** A transaction is judged so, by itself and in a block. */
    private static void both(String what, byte[] tx, int want) {
        due("a transaction: " + what, eight().judgeTx(0, tx), want);
        due("a block with a transaction: " + what, eight().judge(0, nine(tx)), want);
    }

    private static void blockIs(String what, byte[] block, int want) {
        due("a block: " + what, eight().judge(0, block), want);
    }

    private static byte[] spend(int coin, int place, long seed) {
        return Lab.tx(Lab.ins(Plain.coin(coin), place, seed), 1, 1);
    }

    // ---- a transaction

    private static void inputs() {
        Edges.term("INPUT: there is no such one UNSPENT", () -> {
            both("another ID", Lab.tx(Lab.ins(NOBODYS, 0, 0), 1, 1), 10);
            both("another ID in its last INPUT", Lab.tx(Lab.ins(Plain.coin(0), 0, 0, NOBODYS, 0, 0), 1, 1), 10);
            for (int place = 1; place <= 3; place++) both("place " + place, spend(0, place, 0), 10);
            both("one that there is", spend(0, 0, 0), 0);
            byte[] first = spend(0, 0, 0);
            blockIs("what the block before it spent", nine(first, Plain.draw(0, 2, 2)), 10);
            blockIs("what comes behind it", nine(Lab.tx(Lab.ins(Lab.idOf(first), 0, 1), 1, 1), first), 10);
            blockIs("what came before it", nine(first, Lab.tx(Lab.ins(Lab.idOf(first), 0, 1), 1, 1)), 0);
        });
        Edges.term("an INPUT of it before it has the same", () -> {
            both("the same at once", Lab.tx(Lab.ins(Plain.coin(0), 0, 0, Plain.coin(0), 0, 0), 1, 1), 10);
            both("the same as the last of four", Lab.tx(Lab.ins(Plain.coin(0), 0, 0, Plain.coin(1), 0, 0, Plain.coin(2), 0, 0,
                Plain.coin(0), 0, 0), 1, 1), 10);
            both("four that are not the same", Lab.tx(Lab.ins(Plain.coin(0), 0, 0, Plain.coin(1), 0, 0, Plain.coin(2), 0, 0,
                Plain.coin(3), 0, 0), 16384, 1), 0);
        });
        Edges.term("an INPUT of it before it has the same", () -> {
            // One ID with two places is not the same.
            byte[] two = Plain.draw(0, 5, 0, 6, 0);
            blockIs("places 0 and 1 of one ID", nine(two, Lab.tx(Lab.ins(Lab.idOf(two), 0, 0, Lab.idOf(two), 1, 0), 11, 1)), 0);
            blockIs("place 1 twice", nine(two, Lab.tx(Lab.ins(Lab.idOf(two), 1, 0, Lab.idOf(two), 1, 0), 1, 1)), 10);
        });
        Edges.term("or it came by a REWARD of a HEIGHT above this one less 4", () -> {
            both("HEIGHT 5 at 9", spend(5, 0, 0), 0);
            both("HEIGHT 6 at 9", spend(6, 0, 0), 10);
            both("HEIGHT 8 at 9", spend(8, 0, 0), 10);
            blockIs("its own REWARD", nine(Lab.tx(Lab.ins(Lab.idOf(Lab.reward(9, 4096, 7)), 0, 7), 1, 1)), 10);
            byte[] first = spend(0, 0, 0);
            blockIs("no REWARD, of the same HEIGHT", nine(first, Lab.tx(Lab.ins(Lab.idOf(first), 0, 1), 1, 1)), 0);
        });
        Edges.term("or it came by a REWARD of a HEIGHT above this one less 4", () -> {
            House h = new House(1).grow(0, 1, 2);
            due("HEIGHT 0 at 3", h.judgeTx(0, spend(0, 0, 0)), 10);
            h.grow(0, 3, 3);
            due("HEIGHT 0 at 4", h.judgeTx(0, spend(0, 0, 0)), 0);
            due("HEIGHT 1 at 4", h.judgeTx(0, spend(1, 0, 0)), 10);
        });
        Edges.term("INPUT by INPUT", () -> {
            both("the first's SIGNATURE, then the second's ID", Lab.tx(Lab.ins(Plain.coin(0), 0, 1, NOBODYS, 0, 0), 1, 1), 11);
            both("the first's ID, then the second's SIGNATURE", Lab.tx(Lab.ins(NOBODYS, 0, 0, Plain.coin(0), 0, 1), 1, 1), 10);
            both("the first's SIGNATURE, then the same", Lab.tx(Lab.ins(Plain.coin(0), 0, 1, Plain.coin(0), 0, 1), 1, 1), 11);
        });
    }

    private static void signatures() {
        Edges.term("SIGNATURE: it is not of that OUTPUT's ADDRESS", () -> {
            both("another SEED", spend(0, 0, 1), 11);
            both("another SEED of its last INPUT", Lab.tx(Lab.ins(Plain.coin(0), 0, 0, Plain.coin(1), 0, 0, Plain.coin(2), 0, 0,
                Plain.coin(3), 0, -1), 1, 1), 11);
            byte[] tx = spend(0, 0, 0);
            both("its first byte", Lab.with(tx, 11, tx[11] ^ 1), 11);
            both("its last byte", Lab.with(tx, 74, tx[74] ^ 1), 11);
            both("another AMOUNT than was signed", Lab.with(tx, 82, 2), 11);
            both("another ADDRESS than was signed", Lab.with(tx, 90, tx[90] ^ 1), 11);
        });
    }

    private static void amounts() {
        Edges.term("then AMOUNT: an OUTPUT is not 1 .. 2^40", () -> {
            both("1", Plain.draw(0, 1, 1), 0);
            long[][] wrong = {{0}, {-1}, {Long.MIN_VALUE}, {Long.MAX_VALUE}, {MOST}, {MOST + 1}, {5, 0}, {1, 1, 1, 0}, {0, 1}};
            for (long[] w : wrong) both(Arrays.toString(w), Plain.draw(0, outs(w)), 12);
        });
        Edges.term("then AMOUNT: an OUTPUT is not 1 .. 2^40", () -> {
            // All together would be little, running over or below 0.
            long[][] wrong = {{FOURTH, FOURTH, FOURTH, FOURTH}, {Long.MIN_VALUE, Long.MIN_VALUE}, {-1, 2}, {4097, -1},
                {Long.MAX_VALUE, Long.MAX_VALUE, 3}};
            for (long[] w : wrong) both(Arrays.toString(w), Plain.draw(0, outs(w)), 12);
        });
        Edges.term("then AMOUNT: an OUTPUT is not 1 .. 2^40", () -> {
            // No coin has so much: its AMOUNT is changed where it is held.
            House h = eight();
            Inside.fillCoin(h, 0, 0, 8 * MOST);
            due("2^40", h.judgeTx(0, Plain.draw(0, MOST, 1)), 0);
            due("four of 2^40", h.judgeTx(0, Plain.draw(0, outs(MOST, MOST, MOST, MOST))), 0);
            due("2^40 + 1", h.judgeTx(0, Plain.draw(0, MOST + 1, 1)), 12);
            Inside.fillReward(h, 0, 0, 8 * MOST);
            due("a block with 2^40", h.judge(0, nine(Plain.draw(0, MOST, 1))), 0);
            due("a block with 2^40 + 1", h.judge(0, nine(Plain.draw(0, MOST + 1, 1))), 12);
        });
        Edges.term("or all together are more than what its INPUTS have", () -> {
            both("just so much", Plain.draw(0, 4096, 1), 0);
            both("one more", Plain.draw(0, 4097, 1), 12);
            both("just so much in four", Plain.draw(0, outs(1, 1, 1, 4093)), 0);
            both("one more in four", Plain.draw(0, outs(1, 1, 1, 4094)), 12);
            long[] two = Lab.ins(Plain.coin(0), 0, 0, Plain.coin(1), 0, 0);
            both("just so much of two", Lab.tx(two, 8192, 1), 0);
            both("one more of two", Lab.tx(two, 8193, 1), 12);
        });
        Edges.term("its FEE is what is left", () -> {
            House h = eight();
            long[] fees = {0, 1, 4095};
            for (int i = 0; i < 3; i++) {
                due("a FEE of " + fees[i], h.giveTx(0, Plain.draw(i, 4096 - fees[i], 1)), 0);
                due("pooled(0, " + i + ", 1)", h.pooled(0, i, 1), fees[i]);
            }
        });
    }

    private static long[] outs(long... amounts) {
        long[] outs = new long[2 * amounts.length];
        for (int i = 0; i < amounts.length; i++) outs[2 * i] = amounts[i];
        return outs;
    }

    /** Two transactions of one ID can't be found: a coin gets the ID where it is held. */
    private static void twice() {
        Edges.term("then TWICE: an OUTPUT with its ID is UNSPENT.", () -> {
            byte[] tx = Plain.draw(0, 1, 1);
            House h = eight();
            Inside.nameCoin(h, 0, 8, Lab.idOf(tx));
            due("a transaction", h.judgeTx(0, tx), 13);
            due("AMOUNT comes before it", h.judgeTx(0, Plain.draw(0, 4097, 1)), 12);
            due("another transaction", h.judgeTx(0, Plain.draw(0, 2, 1)), 0);
            h.giveTx(0, Plain.draw(0, 3, 1));
            due("it comes before CLASH", h.judgeTx(0, tx), 13);
            House first = eight();
            byte[] second = Plain.draw(1, 1, 1);
            Inside.nameCoin(first, 0, 0, Lab.idOf(second));
            due("the first of what is UNSPENT", first.judgeTx(0, second), 13);
        });
        Edges.term("13 TWICE", () -> {
            byte[] tx = Plain.draw(0, 1, 1);
            House h = eight();
            Inside.nameReward(h, 0, 8, Lab.idOf(tx));
            due("a block with it", h.judge(0, nine(tx)), 13);
            due("TWICE comes before PAY", h.judge(0, Plain.behind(8, Lab.reward(9, 0, 1), tx)), 13);
            due("a block with another", h.judge(0, nine(Plain.draw(0, 2, 1))), 0);
        });
        Edges.term("13 TWICE (also if its ID is that of the REWARD).", () -> {
            due("a block with one ID", Inside.judgeOfOneId(eight(), 0, nine(Plain.draw(0, 1, 1))), 13);
            due("AMOUNT comes before it", Inside.judgeOfOneId(eight(), 0, nine(Plain.draw(0, 4097, 1))), 12);
            due("it comes before PAY", Inside.judgeOfOneId(eight(), 0, Plain.behind(8, Lab.reward(9, 0, 1), Plain.draw(0, 1, 1))), 13);
        });
        Edges.term("then 13 of the REWARD.", () -> {
            byte[] reward = Lab.reward(9, 4096, 7);
            House h = eight();
            Inside.nameReward(h, 0, 8, Lab.idOf(reward));
            due("a block with it", h.judge(0, nine()), 13);
            due("a block with another", h.judge(0, Plain.behind(8, Lab.reward(9, 4095, 7))), 0);
            Inside.nameReward(h, 0, 8, Lab.idOf(Lab.reward(9, 5000, 7)));
            due("PAY comes before it", h.judge(0, Plain.behind(8, Lab.reward(9, 5000, 7))), 14);
        });
    }

    // ---- a block

    private static void forms() {
        Edges.term("1 FORM: the bytes are no block (just all of them; TIME, how many, n, m, HEIGHTS, places as told).", () -> {
            byte[] right = nine(spend(0, 0, 0));
            blockIs("right", right, 0);
            for (int length : new int[] {0, 1, 79, 80, 81, 103, right.length - 1}) blockIs(length + " bytes", Arrays.copyOf(right, length), 1);
            blockIs("a byte more", Arrays.copyOf(right, right.length + 1), 1);
            int[][] odd = {{64, 128}, {80, 0}, {80, 1}, {80, 3}, {80, 9}, {81, 1}, {81, 5}, {82, 0}, {82, 5}, {83, 128}, {103, 0}, {103, 5}, {104, 0},
                {104, 5}, {113, 4}};
            for (int[] o : odd) blockIs("byte " + o[0] + " is " + o[1], Lab.with(right, o[0], o[1]), 1);
        });
        Edges.term("1 FORM: the bytes are no block (just all of them; TIME, how many, n, m, HEIGHTS, places as told).", () -> {
            // A byte before a transaction, with which there are three: what is read from it on is none.
            byte[] tx = new byte[91], oddPlace = new byte[92];
            tx[0] = tx[1] = 1;
            oddPlace[0] = oddPlace[1] = oddPlace[2] = 1;
            oddPlace[10] = 4;
            byte[] first = Lab.reward(9, 4096, 7);
            blockIs("255 INPUTS", Plain.behind(8, first, new byte[] {-1}, tx), 1);
            blockIs("more INPUTS than there are bytes", Plain.behind(8, first, new byte[] {4}, tx), 1);
            blockIs("a place of 4", Plain.behind(8, first, Arrays.copyOf(oddPlace, 1), Arrays.copyOfRange(oddPlace, 1, 92)), 1);
            blockIs("without the byte", Plain.behind(8, first, tx), 10);
            blockIs("without the byte", Plain.behind(8, first, Arrays.copyOfRange(oddPlace, 1, 92)), 10);
        });
        Edges.term("2 KNOWN: it is stored (its HASH).", () -> {
            for (int k : new int[] {0, 1, 8}) blockIs("block " + k, Plain.block(k), 2);
            byte[] known = Plain.block(3);
            blockIs("its HEADER with another body", Model.join(Arrays.copyOf(known, 80), new byte[] {2}, Lab.reward(1, 1, 1), Lab.reward(2, 2, 2)), 2);
            blockIs("a byte more", Arrays.copyOf(known, 104), 1);
            House h = eight();
            byte[] beside = Plain.fork(Plain.block(3), 4, 2000, 1);
            due("give of one beside the chain", h.give(0, beside), 0);
            due("it is stored", h.judge(0, beside), 2);
            due("an ORPHAN is not stored", h.give(0, Plain.block(10)), 6);
            due("an ORPHAN is not stored", h.judge(0, Plain.block(10)), 6);
        });
    }

    private static byte[] lazy(byte[] block) {
        byte[] copy = block.clone();
        ByteBuffer b = ByteBuffer.wrap(copy);
        do b.putLong(72, b.getLong(72) + 1); while (Model.meets(Lab.hashOf(copy), Lab.EASIEST));
        return copy;
    }

    private static void heads() {
        Edges.term("3 WORK: BITS are not right, or its HASH doesn't MEET the TARGET.", () -> {
            blockIs("no work", lazy(nine()), 3);
            for (int bits : new int[] {0, 0x03008000, 0x20007FFF, 0x20100000, 0x21008000, -1}) {
                byte[] block = nine();
                ByteBuffer.wrap(block).putInt(68, bits);
                blockIs("BITS " + Integer.toHexString(bits), block, 3);
            }
        });
        Edges.term("3 WORK: BITS are not right, or its HASH doesn't MEET the TARGET.", () -> {
            // BITS that are right, with a TARGET that its HASH does not meet, though it would meet the EASIEST one.
            for (int bits : new int[] {0x04008000, 0x1D7FFFFF, 0x1F008000}) {
                byte[] block = nine();
                ByteBuffer b = ByteBuffer.wrap(block).putInt(68, bits);
                while (!Model.meets(Lab.hashOf(block), Lab.EASIEST)) b.putLong(72, b.getLong(72) + 1);
                House h = eight();
                due("a right block", h.judge(0, nine()), 0);
                due("BITS " + Integer.toHexString(bits), h.judge(0, block), 3);
                due("a right block", h.judge(0, nine()), 0);
            }
        });
        Edges.term("4 ROOT: it is another one.", () -> {
            for (int at : new int[] {32, 63}) {
                byte[] block = nine();
                blockIs("byte " + at, Lab.work(Lab.with(block, at, block[at] ^ 1)), 4);
            }
            byte[] block = nine(spend(0, 0, 0));
            blockIs("another last byte", Lab.with(block, block.length - 1, block[block.length - 1] ^ 1), 4);
        });
        Edges.term("5 REWARD: the first TRANSACTION is none, or another one is.", () -> {
            blockIs("none", Plain.behind(8, spend(0, 0, 0)), 5);
            blockIs("the last one", Plain.behind(8, spend(0, 0, 0), Lab.reward(9, 1, 1)), 5);
            blockIs("two", nine(Lab.reward(9, 1, 1)), 5);
            byte[][] seven = new byte[7][];
            for (int i = 0; i < 6; i++) seven[i] = spend(i % 6, 0, 0);
            seven[6] = Lab.reward(9, 1, 1);
            blockIs("the eighth, too", nine(seven), 5);
        });
        Edges.term("6 ORPHAN: the block before is not stored.", () -> {
            blockIs("0s in place of a HASH before", Lab.craft(new byte[32], 5000, Lab.EASIEST, Lab.reward(9, 1, 1)), 6);
            byte[] hash = Plain.hash(8);
            for (int at : new int[] {0, 31}) {
                blockIs("byte " + at + " of it", Lab.craft(Lab.with(hash, at, hash[at] ^ 1), 5000, Lab.EASIEST, Lab.reward(9, 1, 1)), 6);
            }
            blockIs("two behind the TIP", Plain.block(10), 6);
            blockIs("behind the FIRST one", Plain.fork(Plain.block(0), 1, 5000, 1), 0);
            blockIs("behind one beneath the TIP", Plain.fork(Plain.block(7), 8, 5000, 1), 0);
        });
    }

    private static void headers() {
        Edges.term("7 DUE: BITS are not those that are DUE.", () -> {
            for (int bits : new int[] {0x200FFFFE, 0x200FFFFD, 0x1F7FFFFF}) {
                blockIs("BITS " + Integer.toHexString(bits), Lab.craft(Plain.hash(8), Plain.time(9), bits, Lab.reward(9, 1, 1)), 7);
            }
        });
        Edges.term("8 TIME: not above the MIDDLE time.", () -> {
            // Of nine blocks that of HEIGHT 4 has the MIDDLE time.
            int[][] want = {{0, 8}, {Plain.time(4) - 1, 8}, {Plain.time(4), 8}, {Plain.time(4) + 1, 0}, {Integer.MAX_VALUE, 0}};
            for (int[] w : want) blockIs("TIME " + w[0], Lab.craft(Plain.hash(8), w[0], Lab.EASIEST, Lab.reward(9, 1, 1)), w[1]);
            blockIs("behind block 2: the MIDDLE time there", Plain.fork(Plain.block(2), 3, Plain.time(1), 1), 8);
            blockIs("behind block 2: a second later", Plain.fork(Plain.block(2), 3, Plain.time(1) + 1, 1), 0);
        });
        Edges.term("9 HEIGHT: its REWARD's is another one.", () -> {
            for (int height : new int[] {0, 8, 10, Integer.MAX_VALUE}) blockIs("HEIGHT " + height, Plain.behind(8, Lab.reward(height, 1, 1)), 9);
            blockIs("HEIGHT 9", Plain.behind(8, Lab.reward(9, 1, 1)), 0);
            blockIs("HEIGHT 9 behind block 3", Plain.fork(Plain.block(3), 9, 5000, 1), 9);
        });
    }

    private static void bodies() {
        Edges.term("Then its other TRANSACTIONS in order, each behind those before it (the REWARD last): 10 INPUT, 11 SIGNATURE, 12 AMOUNT", () -> {
            byte[] input = spend(0, 1, 0), signature = spend(1, 0, 1), amount = Plain.draw(2, 0, 1);
            blockIs("INPUT first", nine(input, signature, amount), 10);
            blockIs("SIGNATURE first", nine(signature, amount, input), 11);
            blockIs("AMOUNT first", nine(amount, input, signature), 12);
            byte[][] seven = new byte[7][];
            for (int i = 0; i < 6; i++) seven[i] = spend(i, 0, 0);
            seven[6] = Lab.tx(Lab.ins(Lab.idOf(seven[0]), 0, 1), 1, 1);
            blockIs("seven that are right", nine(seven), 0);
            seven[6] = Lab.tx(Lab.ins(Lab.idOf(seven[0]), 0, 1), 2, 1);
            blockIs("the seventh is wrong", nine(seven), 12);
        });
        Edges.term("Then its other TRANSACTIONS in order, each behind those before it (the REWARD last)", () -> {
            blockIs("INPUT comes before PAY", Plain.behind(8, Lab.reward(9, 0, 1), spend(0, 1, 0)), 10);
            blockIs("AMOUNT comes before PAY", Plain.behind(8, Lab.reward(9, 5000, 1), Plain.draw(0, 5000, 1)), 12);
        });
        Edges.term("Then its other TRANSACTIONS in order, each behind those before it", () -> {
            // Behind another block than the TIP other coins are there.
            byte[] fork = Lab.craft(Plain.hash(3), 5000, Lab.EASIEST, Lab.reward(4, 1, 1), spend(0, 0, 0));
            blockIs("coin 0 at 4 behind block 3", fork, 0);
            blockIs("coin 1 at 4 behind block 3", Lab.craft(Plain.hash(3), 5000, Lab.EASIEST, Lab.reward(4, 1, 1), spend(1, 0, 0)), 10);
            House h = eight();
            due("coin 0 is spent behind the TIP", h.give(0, nine(spend(0, 0, 0))), 0);
            due("but not behind block 8", h.judge(0, Lab.craft(Plain.hash(8), 5000, Lab.EASIEST, Lab.reward(9, 1, 1), spend(0, 0, 0))), 0);
        });
    }

    private static void pays() {
        Edges.term("14 PAY: an OUTPUT of its REWARD is not 1 .. 2^40", () -> {
            long[][] wrong = {{0}, {-1}, {Long.MIN_VALUE}, {Long.MAX_VALUE}, {MOST}, {1, 0}, {1, 1, 1, -1}, {0, 4096},
                {FOURTH, FOURTH, FOURTH, FOURTH}, {Long.MIN_VALUE, Long.MIN_VALUE}, {4097, -1}};
            for (long[] w : wrong) blockIs(Arrays.toString(w), Plain.behind(8, Lab.reward(9, outs(w))), 14);
            blockIs("1", Plain.behind(8, Lab.reward(9, 1, 1)), 0);
        });
        Edges.term("14 PAY: an OUTPUT of its REWARD is not 1 .. 2^40", () -> {
            // No coin has so much: its AMOUNT is changed where it is held.
            House h = eight();
            Inside.fillReward(h, 0, 0, 8 * MOST);
            due("2^40", h.judge(0, Plain.behind(8, Lab.reward(9, MOST, 1), Plain.draw(0, 1, 1))), 0);
            due("2^40 + 1", h.judge(0, Plain.behind(8, Lab.reward(9, MOST + 1, 1), Plain.draw(0, 1, 1))), 14);
        });
        Edges.term("or all together are more than THE SUBSIDY and all FEES", () -> {
            blockIs("THE SUBSIDY", Plain.behind(8, Lab.reward(9, 4096, 1)), 0);
            blockIs("one more", Plain.behind(8, Lab.reward(9, 4097, 1)), 14);
            blockIs("THE SUBSIDY in four", Plain.behind(8, Lab.reward(9, outs(1, 1, 1, 4093))), 0);
            blockIs("one more in four", Plain.behind(8, Lab.reward(9, outs(1, 1, 1, 4094))), 14);
            byte[] six = Plain.draw(0, 4090, 1), all = Plain.draw(1, 1, 1);
            blockIs("with two FEES", Plain.behind(8, Lab.reward(9, 4096 + 6 + 4095, 1), six, all), 0);
            blockIs("with two FEES, one more", Plain.behind(8, Lab.reward(9, 4096 + 6 + 4095 + 1, 1), six, all), 14);
        });
        Edges.term("0: it is right, and is STORED.", () -> {
            House h = eight();
            due("give", h.give(0, nine()), 0);
            due("blocks STORED", h.told(0, 1), 10);
            due("where the next would stand", h.told(0, 7), 9 * 109);
        });
    }

    /** A block with all faults from a number on, and none before it. */
    private static byte[] faultyFrom(int number) {
        byte[] tx = number <= 10 ? spend(0, 1, 1) : number == 11 ? Plain.draw(0, 0, 1) : number == 12 ? Plain.draw(0, 0, 1) : Plain.draw(0, 1, 1);
        if (number == 11) tx[11] ^= 1;
        byte[] reward = Lab.reward(number <= 9 ? 8 : 9, 0, 1);
        byte[] before = number <= 6 ? new byte[32] : Plain.hash(8);
        int time = number <= 8 ? 1000 : 5000, bits = number <= 7 ? 0x200FFFFE : Lab.EASIEST;
        byte[] block = number <= 5 ? Lab.craft(before, time, bits, tx, reward) : Lab.craft(before, time, bits, reward, tx);
        if (number <= 4) {
            block[32] ^= 1;
            Lab.work(block);
        }
        return number <= 3 ? lazy(block) : block;
    }

    private static void blockOrder() {
        Edges.term("A BLOCK is judged by these, the first that fits", () -> {
            int[] numbers = {3, 4, 5, 6, 7, 8, 9, 10, 11, 12, 14};
            for (int number : numbers) blockIs("all faults from " + number + " on", faultyFrom(number), number);
            byte[] noForm = faultyFrom(3);
            blockIs("all faults", Arrays.copyOf(noForm, noForm.length - 1), 1);
            byte[] known = Plain.block(5);
            blockIs("FORM comes before KNOWN", Lab.with(known, 64, 128), 1);
            blockIs("KNOWN comes before ROOT", Lab.with(known, 102, known[102] ^ 1), 2);
        });
    }

    // ---- the POOL

    private static void pools() {
        Edges.term("A TRANSACTION that comes to the POOL is judged by these, the first that fits: 1 FORM", () -> {
            byte[] tx = spend(0, 0, 0);
            for (int length : new int[] {0, 1, 2, 75, 90}) due(length + " bytes", eight().judgeTx(0, Arrays.copyOf(tx, length)), 1);
            due("a byte more", eight().judgeTx(0, Arrays.copyOf(tx, 92)), 1);
            due("a block", eight().judgeTx(0, Plain.block(9)), 1);
        });
        Edges.term("2 KNOWN: it is in the POOL, byte by byte", () -> {
            byte[] tx = spend(0, 0, 0);
            House h = eight();
            due("give", h.giveTx(0, tx), 0);
            due("give again", h.giveTx(0, tx), 2);
            due("in the POOL", h.told(0, 5), 1);
            due("another SIGNATURE", h.judgeTx(0, Lab.with(tx, 74, tx[74] ^ 1)), 11);
            due("another OUTPUT", h.judgeTx(0, Plain.draw(0, 2, 1)), 16);
            h.mine(0, 0, 5000);
            due("it is in the POOL no more", h.judgeTx(0, tx), 10);
        });
        Edges.term("5 REWARD", () -> {
            due("a REWARD", eight().judgeTx(0, Lab.reward(9, 1, 1)), 5);
            due("a REWARD of nothing", eight().judgeTx(0, Lab.reward(0, 0, 0)), 5);
        });
        Edges.term("16 CLASH: one in the POOL has an INPUT with the same ID and place", () -> {
            byte[] two = Plain.draw(0, 5, 0, 6, 0);
            House h = eight();
            due("block 9", h.give(0, nine(two)), 0);
            due("place 0", h.giveTx(0, Lab.tx(Lab.ins(Plain.coin(1), 0, 0, Lab.idOf(two), 0, 0), 1, 1)), 0);
            due("place 1 of the same ID", h.judgeTx(0, Lab.tx(Lab.ins(Lab.idOf(two), 1, 0), 1, 1)), 0);
            due("the last of it and the last of this", h.judgeTx(0, Lab.tx(Lab.ins(Plain.coin(2), 0, 0, Lab.idOf(two), 0, 0), 2, 2)), 16);
            due("the first of it and the last of this", h.judgeTx(0, Lab.tx(Lab.ins(Plain.coin(2), 0, 0, Plain.coin(1), 0, 0), 2, 2)), 16);
            due("the first of it", h.judgeTx(0, spend(1, 0, 0)), 16);
            due("none of it", h.judgeTx(0, spend(2, 0, 0)), 0);
        });
        Edges.term("15 ROOM: there are 16. 0: it is TAKEN.", () -> {
            House h = new House(1).grow(0, 1, 20);
            for (int i = 0; i < 15; i++) due("into the POOL", h.drawCoin(i, 1, 1).give(0, 6), 0);
            due("judge of the sixteenth", h.drawCoin(15, 1, 1).judge(0, 6), 0);
            due("the sixteenth", h.give(0, 6), 0);
            due("judge of the seventeenth", h.drawCoin(16, 1, 1).judge(0, 6), 15);
            due("the seventeenth", h.give(0, 6), 15);
            due("in the POOL", h.told(0, 5), 16);
            due("the last one", h.pooled(0, 15, 0), Lab.idOf(Plain.draw(15, 1, 1)));
            due("none behind it", h.pooled(0, 16, 0), 0);
        });
    }

    private static void poolOrder() {
        Edges.term("A TRANSACTION that comes to the POOL is judged by these, the first that fits", () -> {
            House h = new House(1).grow(0, 1, 20);
            for (int i = 0; i < 16; i++) due("into the POOL", h.drawCoin(i, 1, 1).give(0, 6), 0);
            due("KNOWN comes before CLASH and ROOM", h.judgeTx(0, Plain.draw(0, 1, 1)), 2);
            due("REWARD comes before ROOM", h.judgeTx(0, Lab.reward(1, 0, 1)), 5);
            due("INPUT comes before ROOM", h.judgeTx(0, Lab.tx(Lab.ins(NOBODYS, 0, 0), 1, 1)), 10);
            due("SIGNATURE comes before CLASH", h.judgeTx(0, spend(0, 0, 1)), 11);
            due("AMOUNT comes before CLASH", h.judgeTx(0, Plain.draw(0, 4097, 1)), 12);
            due("CLASH comes before ROOM", h.judgeTx(0, Plain.draw(0, 2, 1)), 16);
            due("ROOM", h.judgeTx(0, Plain.draw(16, 2, 1)), 15);
        });
    }

    public static void main(String[] args) {
        all();
        Edges.run();
    }
}
