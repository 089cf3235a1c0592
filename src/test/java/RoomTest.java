import java.lang.management.ManagementFactory;

/** Rule 12: what a run makes. All rows are made by the constructor, no call makes anything. */
public final class RoomTest {
    private static final com.sun.management.ThreadMXBean THREADS =
        (com.sun.management.ThreadMXBean) ManagementFactory.getThreadMXBean();

    private static long made() {
        return THREADS.getThreadAllocatedBytes(Thread.currentThread().getId());
    }

    /** Every call, and among them blocks that are mined, sent and judged. */
    private static void run(ChainHouse x) {
        x.link(0, 1, 1);
        for (int i = 0; i < 40; i++) {
            x.assemble(0, 0, x.due(0, 1) + 10);
            x.solve(0, 2000);
            x.root();
            x.judge(0, 5);
            x.give(0, 5);
            x.begin();
            x.spend(0, x.told(0, 4) - 5, 0);
            x.input(1, 1, 1);
            x.begin();
            x.spend(0, x.told(0, 4) - 5, 0);
            x.pay(100, 0);
            x.output(100, x.address(0));
            x.sign(1);
            x.judge(0, 6);
            x.give(0, 6);
            x.tick(3);
        }
        x.take(0, 3);
        x.hash(true, 0);
        x.post(0, 1, 5);
        x.message(0, 0);
        x.messageByte(0, 0);
        x.alter(0, 0, 1);
        x.lose(0);
        x.poke(1, 200, 9);
        x.peek(1, 200);
        x.down(1);
        x.up(1);
        x.fuse(1, 7);
        x.tick(64);
        x.up(1);
        x.balance(0, 0);
        x.find(0, 1, 1);
        x.part(1, 2, 3);
        for (int w = 0; w < 13; w++) {
            x.told(0, w);
            x.house(w);
            x.block(0, 1, w);
            x.limb(0, 1, w);
            x.unspent(0, 1, w);
            x.pooled(0, 0, w);
        }
    }

    public static void main(String[] args) {
        ChainHouse warm = new ChainHouse(2);
        run(warm);
        long before = made();
        ChainHouse x = new ChainHouse(6);
        long built = made() - before;
        before = made();
        run(x);
        long ran = made() - before;
        System.out.println("six nodes: " + built + " bytes, a run: " + ran + " bytes");
        // The elements of the rows are bytes for the most part; the room has 7.3 million.
        if (built > 1000000 || ran > 20000) System.exit(1);
    }
}
