import java.math.BigInteger;

/** Promises 1 to 7: a new object, the tape, hashes, keys. */
public final class TapeAndKeysTest {
    private static void due(String what, long got, long want) {
        Lab.due(what, got, want);
    }

    private static void newObject() {
        int[] asked = {Integer.MIN_VALUE, -1, 0, 1, 2, 5, 6, 7, Integer.MAX_VALUE};
        int[] made = {1, 1, 1, 1, 2, 5, 6, 6, 6};
        for (int i = 0; i < asked.length; i++) {
            ChainHouse x = new ChainHouse(asked[i]);
            due("1: house(0) of " + asked[i], x.house(0), made[i]);
            due("1: told of the last node", x.told(made[i] - 1, 0), 1);
            due("1: told of no node", x.told(made[i], 0), ChainHouse.BAD);
        }
        ChainHouse x = new ChainHouse(6);
        int[] house = {6, 0, 0, 0, 0, 0, 0, 0, 200000};
        for (int w = 0; w < house.length; w++) due("1: house(" + w + ")", x.house(w), house[w]);
        for (int a = 0; a < 6; a++) {
            for (int b = 0; b < a; b++) due("1: no link", x.link(a, b, 0), 0);
        }
    }

    private static void feedCutTurn() {
        ChainHouse x = new ChainHouse(1);
        due("2: feed", x.feed(0x01020304, -1, 0x80000000, 5, 0xA0B0C0D0), 20);
        int[] bytes = {1, 2, 3, 4, 255, 255, 255, 255, 128, 0, 0, 0, 0, 0, 0, 5, 0xA0, 0xB0, 0xC0, 0xD0};
        for (int i = 0; i < 20; i++) due("2: byte " + i, x.turn(i, 0), bytes[i]);
        for (int n = 40; n <= 4000; n += 20) due("2: feed", x.feed(n, 0, 0, 0, n), n);
        due("2: a byte of the last", x.turn(3999, 0), 4000 & 255);
        due("2: feed FULL", x.feed(1, 1, 1, 1, 1), ChainHouse.FULL);
        due("2: FULL changes nothing", x.house(5), 4000);
        due("3: cut", x.cut(1), 3999);
        due("2: feed without room for all twenty", x.feed(1, 1, 1, 1, 1), ChainHouse.FULL);
        due("3: cut", x.cut(19), 3980);
        due("2: feed with just the room", x.feed(1, 1, 1, 1, 1), 4000);
        due("3: cut nothing", x.cut(0), 4000);
        due("3: cut too many", x.cut(4001), ChainHouse.BAD);
        due("3: cut below 0", x.cut(-1), ChainHouse.BAD);
        due("3: cut the least int", x.cut(Integer.MIN_VALUE), ChainHouse.BAD);
        due("3: BAD changes nothing", x.house(5), 4000);
        due("3: cut but twenty", x.cut(3980), 20);
        due("4: turn", x.turn(0, 0xFF), 0xFE);
        due("4: turn looks at the lowest 8 bits", x.turn(0, 0x1FF), 1);
        due("4: turn below 0", x.turn(1, -1), 0xFD);
        due("4: turn behind the tape", x.turn(20, 0), ChainHouse.BAD);
        due("4: turn before it", x.turn(-1, 0), ChainHouse.BAD);
        due("3: cut all", x.cut(20), 0);
        due("3: cut of nothing", x.cut(1), ChainHouse.BAD);
        due("4: turn of nothing", x.turn(0, 1), ChainHouse.BAD);
    }

    private static void hash() {
        Lab lab = new Lab(1);
        long[] empty = {0xe3b0c44298fc1c14L, 0x9afbf4c8996fb924L, 0x27ae41e4649b934cL, 0xa495991b7852b855L};
        long[] abc = {0xba7816bf8f01cfeaL, 0x414140de5dae2223L, 0xb00361a396177a9cL, 0xb410ff61f20015adL};
        for (int k = 0; k < 4; k++) due("5: hash of nothing", lab.x.hash(false, k), empty[k]);
        lab.load(new byte[] {'a', 'b', 'c'});
        for (int k = 0; k < 4; k++) due("5: hash of abc", lab.x.hash(false, k), abc[k]);
        for (int k : new int[] {-1, 4, Integer.MIN_VALUE, Integer.MAX_VALUE}) {
            due("5: limb " + k, lab.x.hash(false, k), 0);
            due("5: limb " + k + " twice", lab.x.hash(true, k), 0);
        }
        for (int n : new int[] {1, 54, 55, 56, 57, 63, 64, 65, 118, 119, 120, 127, 128, 1000, 4000}) {
            byte[] all = new byte[n];
            for (int i = 0; i < n; i++) all[i] = (byte) (i * 7 + n);
            lab.load(all);
            for (int k = 0; k < 4; k++) {
                due("5: hash of " + n, lab.x.hash(false, k), Model.limbOf(new BigInteger(1, Model.h(all)), k));
                due("5: hash twice of " + n, lab.x.hash(true, k), Model.limbOf(new BigInteger(1, Model.hh(all)), k));
            }
            due("5: the tape stays", lab.x.house(5), n);
        }
    }

    private static void keys() {
        ChainHouse x = new ChainHouse(1);
        for (long seed : new long[] {0, 1, -1, 7, Long.MIN_VALUE, Long.MAX_VALUE, 0x0102030405060708L}) {
            for (int i = 0; i < 8; i++) {
                for (int n = 0; n <= 15; n++) due("6: part " + i + " behind " + n, x.part(seed, i, n), Model.keyPart(seed, i, n));
                due("6: part " + i + " behind 16", x.part(seed, i, 16), 0);
                due("6: part " + i + " behind -1", x.part(seed, i, -1), 0);
            }
            for (int i : new int[] {-1, 8, Integer.MIN_VALUE, Integer.MAX_VALUE}) due("6: part " + i, x.part(seed, i, 3), 0);
            due("7: address", x.address(seed), Model.keyAddress(seed));
        }
        due("6: n of the least int", x.part(1, 1, Integer.MIN_VALUE), 0);
        due("6: n of the greatest int", x.part(1, 1, Integer.MAX_VALUE), 0);
    }

    public static void main(String[] args) {
        newObject();
        feedCutTurn();
        hash();
        keys();
        Lab.end();
    }
}
