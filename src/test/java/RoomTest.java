import com.sun.management.ThreadMXBean;
import java.lang.management.ManagementFactory;
import java.util.Random;

/** What a life of 512 calls makes: little, since all that a run makes lives in one room. */
public final class RoomTest {
    // 7.3 million elements of four bytes would be 29 million bytes; a life must stay far below.
    private static final long MOST_BYTES = 4_000_000;

    public static void main(String[] args) {
        due("a new object", () -> new SealedProcesses());
        due("loads of no byte", () -> {
            SealedProcesses x = new SealedProcesses();
            for (int i = 0; i < 512; i++) {
                x.load(0);
            }
        });
        due("small modules that claim much", () -> {
            SealedProcesses x = new SealedProcesses();
            for (int i = 0; i < 256; i++) {
                x.feed(0x534D0000, 0x0100FF0A, 0xF0000000, 0, 0);
                x.load(20);
            }
        });
        due("much code", RoomTest::muchCode);
        due("long runs", RoomTest::longRuns);
        Check.end();
    }

    private static void muchCode() {
        SealedProcesses x = new SealedProcesses();
        int[] module = Asm.module(("function : none 0\n" + "YIELD\n".repeat(239) + "EXIT\n").repeat(8));
        for (int i = 0; i < 5; i++) {
            Check.load(x, module);
        }
    }

    private static void longRuns() {
        SealedProcesses x = new SealedProcesses();
        Random chance = new Random(7);
        int calls = 0;
        while (calls < 100) {
            int[] module = Maker.module(chance);
            Check.load(x, module);
            calls += module.length / 20 + 1;
        }
        Check.load(x, "record 0 1.0\nfunction : none 1\n b: NEW 0\n STORE 0\n SPAWN 0\n JUMP b");
        Check.boot(x, Asm.process(0, 0, 64), Asm.process(0, 0, 1));
        for (int i = 0; i < 400; i++) {
            x.run(10000);
            x.process(i % 12, 7);
        }
    }

    private static void due(String what, Runnable life) {
        ThreadMXBean threads = (ThreadMXBean) ManagementFactory.getThreadMXBean();
        long thread = Thread.currentThread().getId();
        life.run();
        long before = threads.getThreadAllocatedBytes(thread);
        life.run();
        long made = threads.getThreadAllocatedBytes(thread) - before;
        System.out.println(what + ": " + made + " bytes");
        Check.due(what + " made " + made + " bytes", made < MOST_BYTES, true);
    }
}
