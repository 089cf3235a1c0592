import java.util.ArrayList;
import java.util.Arrays;
import java.util.List;

/**
 * The plain chain, put together by hand: a block each eleven seconds, so that the BITS stay the easiest
 * ones, all rewards to seed 0. A House that grows has just these blocks.
 */
final class Plain {
    private static final int STEP = 11;
    private static final List<byte[]> BLOCKS = new ArrayList<>(List.of(Model.firstBlock().raw));

    private Plain() {
    }

    static int time(int height) {
        return 1000 + STEP * height;
    }

    static byte[] block(int height) {
        for (int h = BLOCKS.size(); h <= height; h++) {
            BLOCKS.add(Lab.craft(Lab.hashOf(BLOCKS.get(h - 1)), time(h), Lab.EASIEST, Lab.reward(h, Model.subsidy(h), 0)));
        }
        return BLOCKS.get(height);
    }

    static byte[] hash(int height) {
        return Lab.hashOf(block(height));
    }

    static byte[] hashes(int... heights) {
        byte[] all = new byte[0];
        for (int h : heights) all = Model.join(all, hash(h));
        return all;
    }

    static byte[] headers(int from, int to) {
        byte[] all = new byte[0];
        for (int h = from; h <= to; h++) all = Model.join(all, Arrays.copyOf(block(h), 80));
        return all;
    }

    /** The ID of the reward of a height. */
    static long coin(int height) {
        byte[] block = block(height);
        return Lab.idOf(Arrays.copyOfRange(block, 81, block.length));
    }

    /** A transaction of the coin of a height, signed by its seed. */
    static byte[] draw(int height, long... outs) {
        return Lab.tx(Lab.ins(coin(height), 0, 0), outs);
    }

    /** A block behind the plain one of a height, eleven seconds later. */
    static byte[] behind(int height, byte[]... txs) {
        return Lab.craft(hash(height), time(height + 1), Lab.EASIEST, txs);
    }

    /** A block behind another one, of a height, whose reward is an amount for a seed. */
    static byte[] fork(byte[] before, int height, int time, long seed) {
        return Lab.craft(Lab.hashOf(before), time, Lab.EASIEST, Lab.reward(height, 1, seed));
    }

    /** What stands on a disk of a block at a place. */
    static byte[] record(int place, byte[] block) {
        byte[] two = {(byte) (place >> 8), (byte) place};
        byte[] length = {(byte) (block.length >> 8), (byte) block.length};
        return Model.join(length, block, Arrays.copyOf(Model.h(two, block), 4));
    }
}
