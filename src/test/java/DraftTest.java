import java.util.Arrays;

/** Promises 8 to 13: the draft and what is made of it. */
public final class DraftTest {
    private static void due(String what, long got, long want) {
        Lab.due(what, got, want);
    }

    private static void dueBytes(String what, byte[] got, byte[] want) {
        Lab.due(what, Arrays.equals(got, want) ? 1 : 0, 1);
    }

    private static void gathering() {
        Lab lab = new Lab(2);
        ChainHouse x = lab.x;
        due("8: begin of nothing", x.begin(), 0);
        due("9: place 4", x.input(1, 4, 1), ChainHouse.BAD);
        due("9: place -1", x.input(1, -1, 1), ChainHouse.BAD);
        for (int i = 0; i < 4; i++) due("9: input", x.input(10 + i, i, i), i + 1);
        due("9: the fifth", x.input(1, 0, 1), ChainHouse.FULL);
        due("9: BAD comes before FULL", x.input(1, 4, 1), ChainHouse.BAD);
        due("10: BAD comes before FULL", x.spend(0, 1, 1), ChainHouse.BAD);
        due("10: the fifth", x.spend(0, 0, 1), ChainHouse.FULL);
        for (int i = 0; i < 3; i++) due("11: output", x.output(i, i), i + 1);
        due("12: the fourth", x.pay(1, 1), 4);
        due("11: the fifth", x.output(1, 1), ChainHouse.FULL);
        due("12: the fifth", x.pay(1, 1), ChainHouse.FULL);
        due("8: inputs", x.house(6), 4);
        due("8: outputs", x.house(7), 4);
        due("8: begin", x.begin(), 8);
        due("8: inputs", x.house(6), 0);
        due("8: outputs", x.house(7), 0);
        due("8: begin again", x.begin(), 0);
    }

    private static void mixed() {
        ChainHouse x = new ChainHouse(1);
        due("11: output", x.output(1, 2), 1);
        due("12: pay", x.pay(1, 2), 2);
        due("9: input", x.input(1, 0, 0), 1);
        due("8: begin", x.begin(), 3);
    }

    private static void spending() {
        Lab lab = new Lab(2);
        ChainHouse x = lab.x;
        lab.mine(0, 3, 1);
        due("10: no such node", x.spend(2, 0, 0), ChainHouse.BAD);
        due("10: no such node", x.spend(-1, 0, 0), ChainHouse.BAD);
        due("10: nothing there", x.spend(0, 2, 0), ChainHouse.BAD);
        due("10: below 0", x.spend(0, -1, 0), ChainHouse.BAD);
        due("10: nothing there on the other node", x.spend(1, 1, 0), ChainHouse.BAD);
        due("10: spend", x.spend(0, 1, 3), 1);
        due("10: spend", x.spend(1, 0, 0), 2);
        x.down(1);
        due("10: down, and nothing there", x.spend(1, 99, 0), ChainHouse.IS_DOWN);
        due("10: down", x.spend(1, 0, 0), ChainHouse.IS_DOWN);
        x.input(0, 0, 0);
        x.input(0, 0, 0);
        due("10: down, and no room", x.spend(1, 0, 0), ChainHouse.IS_DOWN);
        due("10: refusals change nothing", x.house(6), 4);
        x.begin();
        x.spend(0, 1, 3);
        x.spend(0, 0, 0);
        x.pay(5, 9);
        x.output(-6, 77);
        due("13: sign", x.sign(-5), 2 + 146 + 32);
        byte[] first = Arrays.copyOfRange(Model.firstBlock().raw, 81, 103);
        byte[] second = Arrays.copyOfRange(lab.block(0, 1), 81, 103);
        x.sign(0);
        byte[] want = Lab.tx(Lab.ins(Lab.idOf(second), 0, 3, Lab.idOf(first), 0, 0), 5, 9, 0, 0);
        System.arraycopy(Model.join(Model.bytes(-6L), Model.bytes(77L)), 0, want, want.length - 16, 16);
        byte[] got = lab.tape();
        for (int i = 0; i < 2; i++) Arrays.fill(want, 2 + 73 * i + 9, 2 + 73 * i + 73, (byte) 0);
        int[] d = Model.digits(want);
        for (int j = 0; j < 8; j++) {
            System.arraycopy(Model.bytes(Model.keyPart(3, j, d[j])), 0, want, 11 + 8 * j, 8);
            System.arraycopy(Model.bytes(Model.keyPart(0, j, d[j])), 0, want, 84 + 8 * j, 8);
        }
        dueBytes("13: the bytes", got, want);
    }

    private static void signing() {
        Lab lab = new Lab(1);
        ChainHouse x = lab.x;
        due("13: no output", x.sign(1), ChainHouse.BAD);
        x.input(5, 3, 8);
        due("13: an input but no output", x.sign(1), ChainHouse.BAD);
        x.begin();
        x.pay(4096, 0);
        x.feed(1, 2, 3, 4, 5);
        due("13: a height below 0", x.sign(-1), ChainHouse.BAD);
        due("13: BAD changes nothing", x.house(5), 20);
        due("13: a reward", x.sign(0), 22);
        dueBytes("13: the reward's bytes", lab.tape(), Lab.reward(0, 4096, 0));
        due("13: of the greatest height", x.sign(Integer.MAX_VALUE), 22);
        dueBytes("13: the reward's bytes", lab.tape(), Lab.reward(Integer.MAX_VALUE, 4096, 0));
        x.pay(-1, 1);
        x.pay(0, 2);
        x.pay(Long.MIN_VALUE, 3);
        due("13: four outputs", x.sign(7), 70);
        dueBytes("13: the reward's bytes", lab.tape(), Lab.reward(7, 4096, 0, -1, 1, 0, 2, Long.MIN_VALUE, 3));
        due("13: the draft stays", x.house(7), 4);
        for (int n = 1; n <= 4; n++) {
            x.input(n * 1000003L, 4 - n, -n);
            due("13: inputs " + n, x.sign(-9), 2 + 73 * n + 64);
        }
        byte[] want = Lab.tx(Lab.ins(1000003L, 3, -1, 2000006L, 2, -2, 3000009L, 1, -3, 4000012L, 0, -4),
            4096, 0, -1, 1, 0, 2, Long.MIN_VALUE, 3);
        dueBytes("13: the bytes", lab.tape(), want);
        due("13: sign again is the same", x.sign(1), want.length);
        dueBytes("13: the bytes", lab.tape(), want);
    }

    public static void main(String[] args) {
        gathering();
        mixed();
        spending();
        signing();
        Lab.end();
    }
}
