import java.util.ArrayList;
import java.util.Arrays;
import java.util.List;
import java.util.function.ToIntFunction;

/** The bounds of each call, promises 1 to 15, a test for each of the document's sentences. */
public final class CallBoundsTest {
    private static final int NONE = Check.NONE;
    private static final int LEAST = Integer.MIN_VALUE;
    private static final int MOST = Integer.MAX_VALUE;
    private static final String MAIN = "function : none 0\n EXIT\n";
    private static final int[] PLAIN = {0, 0, 1};
    private static final int[] OUTSIDE = {LEAST, -2, -1, MOST};

    public static void main(String[] args) throws Exception {
        Bounds.open(args);
        newObject();
        feed();
        feedOfBytes();
        loadOfHowMany();
        loadEmptiesTheTape();
        loadOnAFullShelf();
        fault();
        discard();
        module();
        mostOnTheStack();
        typeAt();
        boot();
        run();
        about();
        process();
        howProcessesAre();
        processesThatNeverWere();
        value();
        pointers();
        emptyValues();
        emptyAgain();
        reached();
        block();
        channel();
        output();
        refusedCallsChangeNothing();
        refusedLoadsAndBoots();
        fiveHundredAndTwelve();
        Check.end();
    }

    private static void newObject() {
        Bounds.says("`SealedProcesses()`: An empty shelf, nothing booted, an empty tape.");
        SealedProcesses x = new SealedProcesses();
        for (int m = 0; m < 6; m++) {
            Bounds.due("no module " + m, x.module(m, 0, 3), NONE);
            Bounds.due("discard " + m, x.discard(m), false);
        }
        Bounds.due("nothing is booted: run", x.run(1), NONE);
        Bounds.due("nothing is booted: about", x.about(0), NONE);
        Bounds.due("no byte on the tape: load", x.load(1), -2);
        Bounds.due("no byte on the tape: boot", x.boot(1), -2);
        Bounds.due("the first bytes", x.feed(0, 0, 0, 0, 0), 20);
        x.load(0);
        Bounds.due("the first place", Check.load(x, MAIN), 0);
        Bounds.due("the constant", SealedProcesses.NONE, -1);
    }

    // Nine functions with 4 bytes ahead of their code each, 5 bytes ahead of them all.
    private static int[] moduleOf(int length) {
        int last = length - 5 - 8 * 244 - 4;
        String most = "function : none 0\n" + "YIELD\n".repeat(239) + "EXIT\n";
        return Asm.module(most.repeat(8) + "function : none 0\n" + "YIELD\n".repeat(last - 1) + "EXIT\n");
    }

    private static void feed() {
        Bounds.says("Twenty bytes come behind those on the tape: four of each number, the highest first: how many "
            + "there are.");
        Bounds.says("NONE when there would be more than 2,000.");
        SealedProcesses x = new SealedProcesses();
        int[] module = moduleOf(2000);
        int[] numbers = new int[5];
        for (int i = 0; i < 100; i++) {
            for (int k = 0; k < 5; k++) {
                int at = 20 * i + 4 * k;
                numbers[k] = module[at] << 24 | module[at + 1] << 16 | module[at + 2] << 8 | module[at + 3];
            }
            Bounds.due("feed " + i, x.feed(numbers[0], numbers[1], numbers[2], numbers[3], numbers[4]), 20 * (i + 1));
        }
        Bounds.due("2,000 are on the tape", x.feed(1, 1, 1, 1, 1), NONE);
        Bounds.due("and again", x.feed(-1, -1, -1, -1, -1), NONE);
        Bounds.due("more than there are", x.load(2001), -2);
        Bounds.due("all of them are as they were", x.load(2000), 0);
        Bounds.due("its bytes", x.module(0, 0, 3), 2000);
        Bounds.due("its last code", x.module(0, 8, 13), 2000 - x.module(0, 8, 12));
        Bounds.due("the tape is empty then", x.feed(0, 0, 0, 0, 0), 20);
        // 1,980 and twenty more.
        SealedProcesses y = new SealedProcesses();
        for (int i = 0; i < 99; i++) {
            y.feed(0, 0, 0, 0, 0);
        }
        Bounds.due("the hundredth", y.feed(0, 0, 0, 0, 0), 2000);
        Bounds.due("the next", y.feed(0, 0, 0, 0, 0), NONE);
    }

    private static void feedOfBytes() {
        Bounds.says("four of each number, the highest first");
        // 83 77 0 0 1 0 255 1 8, PUSH 0x80FF017F, STORE 0, EXIT.
        SealedProcesses x = new SealedProcesses();
        Bounds.due("feed", x.feed(0x534D0000, 0x0100FF01, 0x080080FF, 0x017F0300, 0x2AFFFFFF), 20);
        Bounds.due("load", x.load(17), 0);
        Check.boot(x, PLAIN);
        x.run(2);
        Bounds.due("a number of four bytes", x.value(0, 1, 0), 0x80FF017F);
        // The bytes of the next feed are behind those of the first.
        x = new SealedProcesses();
        x.feed(0x534D0000, 0x0100FF01, 0x0D000102, 0x03040300, 0x00FFFEFD);
        Bounds.due("feed", x.feed(0xFC2A0000, 0, 0, 0, 0), 40);
        Bounds.due("load", x.load(22), 0);
        Check.boot(x, PLAIN);
        x.run(3);
        Bounds.due("the first", x.value(0, 1, 0), 0x01020304);
        Bounds.due("across two feeds", x.value(0, 0, 0), 0xFFFEFDFC);
    }

    private static void loadOfHowMany() {
        Bounds.says("-2, doing nothing, when n is below 0 or more than there are.");
        int[] bytes = Asm.module(MAIN);
        SealedProcesses x = new SealedProcesses();
        for (int n : new int[] {LEAST, -2, -1, 1, 2, 20, MOST}) {
            Bounds.due("load(" + n + ") of an empty tape", x.load(n), -2);
        }
        Check.feed(x, bytes);
        for (int n : new int[] {LEAST, -2, -1, 21, 22, 2000, 2001, MOST}) {
            Bounds.due("load(" + n + ") of twenty", x.load(n), -2);
            Bounds.dueFault("it does nothing", x, NONE, NONE);
        }
        Bounds.due("the tape is there still", x.load(bytes.length), 0);
        // As many as there are, and none at all.
        SealedProcesses y = new SealedProcesses();
        int[] twenty = Asm.module("function : none 0\n" + "YIELD\n".repeat(10) + "EXIT\n");
        Bounds.due("a module of twenty", twenty.length, 20);
        Bounds.due("all that there are", Check.load(y, twenty), 0);
        Check.feed(y, twenty);
        Bounds.due("none of twenty", y.load(0), NONE);
        Bounds.dueFault("none of twenty", y, 1, 0);
        Check.feed(y, twenty);
        Bounds.due("one of twenty", y.load(1), NONE);
        Bounds.dueFault("one of twenty", y, 1, 1);
        Bounds.due("none of none", y.load(0), NONE);
        Bounds.dueFault("none of none", y, 1, 0);
        Bounds.due("one of none", y.load(1), -2);
    }

    private static void loadEmptiesTheTape() {
        Bounds.says("The first n bytes of the tape (which is empty then) are a module: its place;");
        SealedProcesses x = new SealedProcesses();
        Check.feed(x, Asm.join(Asm.module(MAIN), new int[50]));
        Bounds.due("load", x.load(Asm.module(MAIN).length), 0);
        Bounds.due("all the tape is empty then", x.load(1), -2);
        Bounds.due("the next bytes are the first", x.feed(0, 0, 0, 0, 0), 20);
        Bounds.due("one with a fault", x.load(1), NONE);
        Bounds.due("the tape is empty then", x.feed(0, 0, 0, 0, 0), 20);
        Bounds.due("none of them", x.load(0), NONE);
        Bounds.due("the tape is empty then", x.feed(0, 0, 0, 0, 0), 20);
    }

    private static void loadOnAFullShelf() {
        Bounds.says("NONE with a fault, or (0, place NONE; of one without a fault) when the shelf is full.");
        SealedProcesses x = new SealedProcesses();
        for (int m = 0; m < 6; m++) {
            Bounds.due("load", Check.load(x, MAIN), m);
            Bounds.dueFault("load", x, 0, NONE);
        }
        Check.load(x, new int[] {83});
        Bounds.dueFault("one with a fault", x, 1, 1);
        Bounds.due("a seventh", Check.load(x, MAIN), NONE);
        Bounds.dueFault("a seventh", x, 0, NONE);
        Bounds.due("the tape is empty then", x.feed(0, 0, 0, 0, 0), 20);
        x.load(0);
        Bounds.due("a seventh that is not right", Check.load(x, "function : none 0\n POP\n EXIT\n"), NONE);
        Bounds.dueFault("a seventh that is not right", x, 2, 9);
        Bounds.due("a seventh with a bad byte", Check.load(x, new int[] {83, 77, 9}), NONE);
        Bounds.dueFault("a seventh with a bad byte", x, 1, 2);
        Bounds.due("discard", x.discard(5), true);
        Bounds.due("a sixth again", Check.load(x, MAIN), 5);
    }

    private static void fault() {
        Bounds.says("Of the latest load() or boot() that was not -2: its FAULT (0: none), or (what 1) the place; "
            + "NONE when there is none, and ahead of any.");
        SealedProcesses x = new SealedProcesses();
        Bounds.dueFault("ahead of any", x, NONE, NONE);
        x.load(1);
        x.boot(-1);
        Bounds.dueFault("behind -2 alone", x, NONE, NONE);
        x.load(0);
        Bounds.dueFault("the place 0", x, 1, 0);
        x.load(-1);
        x.boot(1);
        Bounds.dueFault("behind -2", x, 1, 0);
        Check.load(x, "function : none 0\n POP\n EXIT\n");
        Bounds.dueFault("a fault 2", x, 2, 9);
        Check.load(x, MAIN);
        Bounds.dueFault("none", x, 0, NONE);
        Check.boot(x, Asm.process(1, 0, 1));
        Bounds.dueFault("a fault of boot", x, 3, 3);
        x.run(1);
        x.discard(4);
        Bounds.dueFault("behind other calls", x, 3, 3);
        Check.boot(x, PLAIN);
        Bounds.dueFault("none of boot", x, 0, NONE);
        Check.load(x, new int[] {83, 77, 0, 0, 1});
        Bounds.dueFault("the end", x, 1, 5);
        for (int what : new int[] {LEAST, -1, 2, MOST}) {
            Bounds.due("fault(" + what + ")", x.fault(what), NONE);
        }
    }

    private static void discard() {
        Bounds.says("A module goes from the shelf: true; false when there is none.");
        SealedProcesses x = new SealedProcesses();
        for (int m = 0; m < 6; m++) {
            Check.load(x, MAIN);
        }
        for (int m : new int[] {LEAST, -1, 6, 7, 255, MOST}) {
            Bounds.due("discard(" + m + ")", x.discard(m), false);
        }
        for (int m = 0; m < 6; m++) {
            Bounds.due("discard " + m, x.discard(m), true);
            Bounds.due("gone", x.module(m, 0, 0), NONE);
            Bounds.due("discard " + m + " again", x.discard(m), false);
            Bounds.due("the next is there", x.module(m + 1, 0, 0), m < 5 ? 0 : NONE);
        }
    }

    private static final String SMALL = "record 0\nrecord 0\nrecord 0\ncontract\n state nobody\n"
        + "function 0 0 : none 5\n PUSH 1\n PUSH 1\n EXIT\n" + MAIN;

    private static void module() {
        Bounds.says("Of a module: 0 records, 1 contracts, 2 functions, 3 bytes; of function f: 10 parameters, 11 "
            + "locals, 12 bytes of code, 13 where that begins, 14 the most that is on its stack (of what is come to).");
        SealedProcesses x = Check.withModule(SMALL);
        int length = Asm.module(SMALL).length;
        int[] want = {3, 1, 2, length};
        Bounds.says("NONE for others (f is looked at for 10 and on alone).");
        for (int what = 0; what < 4; what++) {
            for (int f : new int[] {LEAST, -1, 0, 1, 2, MOST}) {
                Bounds.due("module(0, " + f + ", " + what + ")", x.module(0, f, what), want[what]);
            }
        }
        int[][] rows = {{2, 5, 11, 20, 2}, {0, 0, 1, length - 1, 0}};
        for (int what = 10; what < 15; what++) {
            for (int f = 0; f < 2; f++) {
                Bounds.due("module(0, " + f + ", " + what + ")", x.module(0, f, what), rows[f][what - 10]);
            }
            for (int f : new int[] {LEAST, -1, 2, 10, MOST}) {
                Bounds.due("module(0, " + f + ", " + what + ")", x.module(0, f, what), NONE);
            }
        }
        for (int what : new int[] {LEAST, -1, 4, 5, 8, 9, 15, 16, MOST}) {
            Bounds.due("module(0, 0, " + what + ")", x.module(0, 0, what), NONE);
        }
        for (int m : new int[] {LEAST, -1, 1, 5, 6, MOST}) {
            Bounds.due("module(" + m + ", 0, 0)", x.module(m, 0, 0), NONE);
            Bounds.due("module(" + m + ", 0, 10)", x.module(m, 0, 10), NONE);
        }
        for (int m = 1; m < 6; m++) {
            Bounds.due("load", Check.load(x, MAIN.repeat(m)), m);
        }
        Bounds.due("the sixth place", x.module(5, 0, 2), 5);
        // The least and the most of each.
        SealedProcesses z = Check.withModule(MAIN);
        int[] least = {0, 0, 1, 10};
        for (int what = 0; what < 4; what++) {
            Bounds.due("the least " + what, z.module(0, 0, what), least[what]);
        }
        int[] leastOfFunction = {0, 0, 1, 9, 0};
        for (int what = 10; what < 15; what++) {
            Bounds.due("the least " + what, z.module(0, 0, what), leastOfFunction[what - 10]);
        }
        SealedProcesses y = Check.withModule("record 0\n".repeat(8) + "contract\n state nobody\n".repeat(4)
            + "function 0 0 0 0 : none 10\n" + "YIELD\n".repeat(239) + "EXIT\n" + MAIN.repeat(9));
        int[] most = {8, 4, 10};
        for (int what = 0; what < 3; what++) {
            Bounds.due("the most " + what, y.module(0, 0, what), most[what]);
        }
        Bounds.due("the most parameters", y.module(0, 0, 10), 4);
        Bounds.due("the most locals", y.module(0, 0, 11), 10);
        Bounds.due("the most code", y.module(0, 0, 12), 240);
        Bounds.due("the least code", y.module(0, 9, 12), 1);
    }

    private static void mostOnTheStack() {
        Bounds.says("14 the most that is on its stack (of what is come to)");
        String[] codes = {"EXIT", "EXIT, PUSH 1, EXIT", "JUMP e, PUSH 1, e: EXIT", "PUSH 1, EXIT", "PUSH 1, POP, EXIT",
            "PUSH 1, PUSH 1, ADD, EXIT", "NIL, LENGTH, PUSH 1, PUSH 1, EXIT", "PUSH 1, ".repeat(15) + "EXIT",
            "PUSH 1, ".repeat(16) + "EXIT", "PUSH 1, ZERO e, PUSH 1, PUSH 1, PUSH 1, EXIT, e: EXIT"};
        int[] want = {0, 0, 0, 1, 1, 2, 1, 15, 16, 3};
        for (int i = 0; i < codes.length; i++) {
            SealedProcesses x = Check.withModule("function : none 0\n" + Bounds.lines(codes[i]));
            Bounds.due("the most of " + codes[i], x.module(0, 0, 14), want[i]);
        }
    }

    private static void typeAt() {
        Bounds.says("the type's first byte (0 to 5; 6 NIL) at stack place i (0 the lowest; what 0), or local i (what "
            + "1; EMPTY: 7).");
        String text = "record 0\ncontract\n state client none>0\nfunction 0 1.0 2 5.0.0.0 : none 10\n PUSH 1\n"
            + " LOAD 1\n LOAD 2\n PUSH 1\n ROWS 0\n BLOCK 0\n LOAD 3\n NIL\n EXIT\n EXIT\n" + MAIN;
        SealedProcesses x = Check.withModule(text);
        int last = 5 + 2 + 2 + 5 + 2 + 2 + 2 + 1;
        int[] stack = {0, 1, 2, 3, 4, 5, 6};
        int[] locals = {0, 1, 2, 7, 7, 7, 7, 7, 7, 7};
        for (int i = 0; i < 7; i++) {
            Bounds.due("stack place " + i, x.typeAt(0, 0, last, 0, i), stack[i]);
        }
        for (int i = 0; i < 10; i++) {
            Bounds.due("local " + i, x.typeAt(0, 0, last, 1, i), locals[i]);
        }
        Bounds.due("the end ahead of its LOAD", x.typeAt(0, 0, last - 1, 1, 3), 7);
        Bounds.due("the end ahead of its LOAD", x.typeAt(0, 0, last - 3, 1, 3), 5);
        Bounds.says("NONE when nothing comes there, no instruction begins there, or there is none such.");
        for (int i : new int[] {LEAST, -1, 7, 8, 16, MOST}) {
            Bounds.due("stack place " + i, x.typeAt(0, 0, last, 0, i), NONE);
        }
        for (int i : new int[] {LEAST, -1, 10, 11, 26, MOST}) {
            Bounds.due("local " + i, x.typeAt(0, 0, last, 1, i), NONE);
        }
        Bounds.due("an empty stack", x.typeAt(0, 0, 0, 0, 0), NONE);
        for (int place : new int[] {LEAST, -1, 1, 2, 3, 4, 6, last + 1, last + 2, 240, MOST}) {
            Bounds.due("place " + place, x.typeAt(0, 0, place, 1, 0), NONE);
        }
        for (int what : new int[] {LEAST, -1, 2, MOST}) {
            Bounds.due("what " + what, x.typeAt(0, 0, last, what, 0), NONE);
        }
        for (int f : new int[] {LEAST, -1, 2, MOST}) {
            Bounds.due("function " + f, x.typeAt(0, f, 0, 1, 0), NONE);
        }
        for (int m : new int[] {LEAST, -1, 1, 6, MOST}) {
            Bounds.due("module " + m, x.typeAt(m, 0, 0, 1, 0), NONE);
        }
        Bounds.due("a function without locals", x.typeAt(0, 1, 0, 1, 0), NONE);
        SealedProcesses y = Check.withModule("function : none 1\n" + "YIELD\n".repeat(239) + "EXIT\n");
        Bounds.due("the last of 240 bytes", y.typeAt(0, 0, 239, 1, 0), 7);
        Bounds.due("behind it", y.typeAt(0, 0, 240, 1, 0), NONE);
    }

    private static void boot() {
        Bounds.says("The first n bytes of the tape (which is empty then) are a manifest, which is booted: how many "
            + "processes.");
        SealedProcesses x = Check.withModule("function : none 0\n b: YIELD\n JUMP b\n");
        for (int n : new int[] {LEAST, -1, 1, MOST}) {
            Bounds.due("boot(" + n + ") of an empty tape", x.boot(n), -2);
        }
        int[] bytes = Asm.manifest(PLAIN);
        Check.feed(x, bytes);
        for (int n : new int[] {LEAST, -2, -1, 21, 2001, MOST}) {
            Bounds.due("boot(" + n + ") of twenty", x.boot(n), -2);
            Bounds.dueFault("it does nothing", x, 0, NONE);
            Bounds.due("nothing is booted", x.about(0), NONE);
        }
        Bounds.due("boot", x.boot(6), 1);
        Bounds.due("all the tape is empty then", x.feed(0, 0, 0, 0, 0), 20);
        Bounds.says("NONE with a fault: what runs stays. -2, doing nothing, likewise.");
        Bounds.run(x, 5);
        Bounds.due("none of twenty", x.boot(0), NONE);
        Bounds.dueFault("none of twenty", x, 1, 0);
        Bounds.due("the tape is empty then", x.feed(0, 0, 0, 0, 0), 20);
        Bounds.due("what runs stays", x.about(0), 5);
        Bounds.due("with -2", x.boot(21), -2);
        Bounds.due("the tape stays", x.feed(0, 0, 0, 0, 0), 40);
        Bounds.due("what runs stays", x.about(0), 5);
        Bounds.run(x, 5);
        x.boot(0);
        int[] six = Asm.manifest(PLAIN, PLAIN, PLAIN, PLAIN, PLAIN, PLAIN);
        Bounds.due("six processes", Check.bootBytes(x, six), 6);
        Bounds.due("one process", Check.bootBytes(x, bytes), 1);
        // Just as many as there are.
        SealedProcesses y = Check.withModule("function 0 0 : none 2\n EXIT\n" + MAIN);
        int[] twenty = Asm.manifest(Asm.process(0, 0, 1, new int[8]), Asm.process(0, 1, 1), Asm.process(0, 1, 1));
        Bounds.due("a manifest of twenty", twenty.length, 20);
        Bounds.due("all that there are", Check.bootBytes(y, twenty), 3);
        Bounds.due("one of none", y.boot(1), -2);
        Check.feed(y, twenty);
        Bounds.due("one more than there are", y.boot(21), -2);
        Bounds.due("one less", y.boot(19), NONE);
        Bounds.dueFault("one less", y, 1, 19);
        for (int n = 0; n < 3; n++) {
            Check.feed(y, twenty);
            Bounds.due("the first " + n, y.boot(n), NONE);
            Bounds.dueFault("the first " + n, y, 1, n);
        }
    }

    private static void run() {
        Bounds.says("Up to n steps (0 to 10,000; less when all is STILL): how many. NONE for others, or when nothing "
            + "is booted.");
        SealedProcesses x = Check.withModule("function : none 0\n b: YIELD\n JUMP b\nfunction : none 0\n YIELD\n"
            + " YIELD\n EXIT\n");
        for (int n : new int[] {LEAST, -1, 0, 1, 10000, 10001, MOST}) {
            Bounds.due("run(" + n + ") when nothing is booted", x.run(n), NONE);
        }
        Check.boot(x, PLAIN);
        for (int n : new int[] {LEAST, -2, -1, 10001, 10002, MOST}) {
            Bounds.due("run(" + n + ")", x.run(n), NONE);
            Bounds.due("no step", x.about(0), 0);
        }
        Bounds.due("run(0)", x.run(0), 0);
        Bounds.due("no step", x.about(0), 0);
        Bounds.due("run(1)", x.run(1), 1);
        Bounds.due("run(9999)", x.run(9999), 9999);
        Bounds.due("steps", x.about(0), 10000);
        Bounds.due("run(10000)", x.run(10000), 10000);
        Bounds.due("steps", x.about(0), 20000);
        Check.boot(x, Asm.process(0, 1, 1));
        Bounds.due("just as many as there are", x.run(2), 2);
        Bounds.due("less when all is STILL", x.run(2), 1);
        Bounds.due("none more", x.run(10000), 0);
        Bounds.due("none more", x.run(0), 0);
        Bounds.due("others are NONE when all is STILL, too", x.run(10001), NONE);
        Check.boot(x, Asm.process(0, 1, 1));
        Bounds.due("less", x.run(10000), 3);
    }

    private static final String BUSY = """
        record 0 0 0
        contract
          state client 4.0>0 0>0
        function 5.0.0.0 : none 3
          LOAD 0
          BLOCK 0
          PUSH -1
          SET 1
          PUSH 9
          SET 2
          SEND 0
          BLOCK 0
          STORE 1
          PUSH -1
          OUT
          PUSH 6
          OUT
          b: YIELD
          JUMP b
        function 5.0.0.1 0 : none 3
          b: YIELD
          JUMP b
        function : none 2
          PUSH 2
          ROW
          STORE 0
          NIL
          LENGTH
        """;

    /** Process 0 owns block 1, block 0 waits for channel 0's server; process 1 goes on, process 2 is over by trap 1. */
    private static SealedProcesses busy() {
        SealedProcesses x = Check.withModule(BUSY);
        Check.boot(x, Asm.process(0, 0, 1, 3), Asm.process(0, 1, 2, 3, 0, 0, 1, 0), Asm.process(0, 2, 3));
        Bounds.due("steps", x.run(8 + 1 + 5 + 6), 20);
        return x;
    }

    private static void about() {
        Bounds.says("0 steps since boot, 1 whether none could go on as things are (1, 0), 2 processes that are not "
            + "over, 3 channels, 4 blocks, 5 cells of blocks, 6 OUTs.");
        SealedProcesses x = busy();
        Bounds.dueAll("about", Probe.about(x), 20, 0, 2, 1, 2, 8, 2);
        Bounds.says("NONE for others, or when nothing is booted.");
        for (int what : new int[] {LEAST, -2, -1, 7, 8, MOST}) {
            Bounds.due("about(" + what + ")", x.about(what), NONE);
        }
        SealedProcesses y = Check.withModule(BUSY);
        for (int what = 0; what < 7; what++) {
            Bounds.due("nothing is booted: about(" + what + ")", y.about(what), NONE);
        }
        Check.boot(y, Asm.process(0, 2, 1));
        Bounds.dueAll("just booted", Probe.about(y), 0, 0, 1, 0, 0, 0, 0);
    }

    private static void process() {
        Bounds.says("3 the function, 4 the place in its code of its next instruction, 5 activations, 6 items on the "
            + "stack of the latest one, 7 cells that it reaches, 8 cells of its heap, 9 steps (3 to 7: 0 when it is "
            + "over).");
        SealedProcesses x = busy();
        Bounds.dueAll("process 0", Probe.process(x, 0), 1, 0, 0, 0, 37, 1, 1, 0, 16, 14);
        Bounds.dueAll("process 1", Probe.process(x, 1), 1, 0, 0, 1, 1, 1, 0, 0, 32, 1);
        Bounds.dueAll("process 2", Probe.process(x, 2), 5, 1, 0, 0, 0, 0, 0, 0, 48, 5);
        Bounds.says("NONE for numbers that never had one since boot, and others.");
        for (int p = 0; p < 3; p++) {
            for (int what : new int[] {LEAST, -2, -1, 10, 11, MOST}) {
                Bounds.due("process(" + p + ", " + what + ")", x.process(p, what), NONE);
            }
        }
        for (int p : new int[] {LEAST, -1, 3, 11, 12, 13, MOST}) {
            Bounds.dueAll("process " + p, Probe.process(x, p), NONE, NONE, NONE, NONE, NONE, NONE, NONE, NONE, NONE,
                NONE);
        }
    }

    private static void howProcessesAre() {
        Bounds.says("Of a process: 0 how it is: 1 it goes on, 2 it waits to receive, 3 to send (these as it was found "
            + "in its latest turn), 4 over, 5 over by a trap; 1 the trap (0: none); 2 the place of its module on the "
            + "shelf when it was booted;");
        SealedProcesses x = new SealedProcesses();
        for (int m = 0; m < 5; m++) {
            Check.load(x, MAIN);
        }
        String text = """
            contract
              state client none>0
            function 5.0.0.0 : none 1
              LOAD 0
              b: SEND 0
              JUMP b
            function 5.0.0.1 : none 1
              b: YIELD
              JUMP b
            function 5.0.0.0 : none 1
              b: YIELD
              JUMP b
            function 5.0.0.1 : none 1
              LOAD 0
              RECEIVE r
              r: EXIT
            function : none 0
              SPAWN 6
              NIL
              LENGTH
            function : none 0
              RETURN
            function : none 0
              y: YIELD
              JUMP y
            """;
        Bounds.due("the last place", Check.load(x, text), 5);
        Bounds.due("boot", Check.boot(x, Asm.process(5, 0, 1, 0), Asm.process(5, 1, 1, 0), Asm.process(5, 2, 1, 1),
            Asm.process(5, 3, 1, 1), Asm.process(5, 4, 1), Asm.process(4, 0, 1)), 6);
        for (int p = 0; p < 6; p++) {
            Bounds.due("booted " + p, x.process(p, 0), 1);
            Bounds.due("no trap " + p, x.process(p, 1), 0);
            Bounds.due("its module " + p, x.process(p, 2), p < 5 ? 5 : 4);
        }
        Bounds.due("discard", x.discard(5), true);
        Bounds.run(x, 100);
        int[] how = {3, 1, 1, 2, 5, 4, 1};
        for (int p = 0; p < 7; p++) {
            Bounds.due("how " + p + " is", x.process(p, 0), how[p]);
            Bounds.due("the trap of " + p, x.process(p, 1), p == 4 ? 1 : 0);
            Bounds.due("the module of " + p + " when it was booted", x.process(p, 2), p == 5 ? 4 : 5);
        }
    }

    private static void processesThatNeverWere() {
        SealedProcesses x = Check.withModule(MAIN + "function : none 0\n" + "SPAWN 0\n".repeat(3) + "EXIT\n");
        Bounds.due("nothing is booted", x.process(0, 0), NONE);
        Check.boot(x, Asm.process(0, 1, 1));
        Bounds.due("not yet", x.process(1, 0), NONE);
        x.run(1);
        Bounds.due("the first child", x.process(1, 0), 1);
        Bounds.due("not yet", x.process(2, 0), NONE);
        x.run(100);
        Bounds.due("over", x.process(3, 0), 4);
        Bounds.due("never", x.process(4, 0), NONE);
        Check.boot(x, PLAIN);
        Bounds.due("there", x.process(0, 0), 1);
        Bounds.due("not since boot", x.process(1, 0), NONE);
    }

    private static void dueNoValue(SealedProcesses x, int p, int what, int i) {
        Bounds.due("value(" + p + ", " + what + ", " + i + ")", x.value(p, what, i), LEAST);
    }

    private static void value() {
        Bounds.says("What a process has (the latest activation): stack place i (what 0), local i (1): an INT itself; "
            + "of a node or row 1 (NIL 0), of a block its number, of an end twice its channel and the side;");
        SealedProcesses x = busy();
        Bounds.due("an end", x.value(0, 0, 0), 0);
        Bounds.due("a block", x.value(0, 1, 1), 1);
        Bounds.due("the other end", x.value(1, 1, 0), 1);
        Bounds.due("an INT", x.value(1, 1, 1), 256);
        Bounds.says("Integer.MIN_VALUE when there is none such.");
        for (int i : new int[] {LEAST, -1, 1, 2, 16, MOST}) {
            dueNoValue(x, 0, 0, i);
        }
        for (int i : new int[] {LEAST, -1, 3, 10, 26, MOST}) {
            dueNoValue(x, 0, 1, i);
        }
        dueNoValue(x, 1, 0, 0);
        for (int what : new int[] {LEAST, -1, 2, MOST}) {
            dueNoValue(x, 0, what, 0);
        }
        for (int what = 0; what < 2; what++) {
            for (int p : new int[] {LEAST, -1, 2, 3, 11, 12, MOST}) {
                dueNoValue(x, p, what, 0);
            }
        }
        SealedProcesses y = new SealedProcesses();
        dueNoValue(y, 0, 0, 0);
        dueNoValue(y, 0, 1, 0);
        // The most that there is: ten locals, sixteen on the stack; an INT may be the same number.
        y = Bounds.booted("function : none 10\n PUSH -2147483648\n STORE 9\n" + " PUSH 1\n".repeat(15)
            + " PUSH 8\n EXIT\n", PLAIN);
        Bounds.run(y, 18);
        Bounds.due("the tenth local", y.value(0, 1, 9), LEAST);
        Bounds.due("the first local", y.value(0, 1, 0), 0);
        Bounds.due("the sixteenth", y.value(0, 0, 15), 8);
        Bounds.due("items", y.process(0, 6), 16);
        dueNoValue(y, 0, 0, 16);
        dueNoValue(y, 0, 1, 10);
    }

    private static void emptyValues() {
        Bounds.says("of EMPTY 0 (a local is so till something is stored, and behind a LOAD of what is linear; by "
            + "what was stored, whatever JOINING made of its type; that is reached, too).");
        SealedProcesses x = Bounds.alone("record 0\nrecord 0 0\n",
            "BLOCK 0, BLOCK 0, STORE 0, PUSH 7, STORE 1, PUSH 1, ZERO e, NEW 1, STORE 1, NEW 1, STORE 2, e: LOAD 0, "
            + "PUSH 12, ROW, PUSH 0, ROW, EXIT");
        Bounds.due("till something is stored", x.value(0, 1, 0), 0);
        Bounds.run(x, 3);
        Bounds.due("a block", x.value(0, 1, 0), 1);
        Bounds.run(x, 4);
        Bounds.due("an INT", x.value(0, 1, 1), 7);
        Bounds.run(x, 4);
        Bounds.due("EMPTY by its type", x.typeAt(0, 0, x.process(0, 4), 1, 1), 7);
        Bounds.due("EMPTY by its type", x.typeAt(0, 0, x.process(0, 4), 1, 2), 7);
        Bounds.due("by what was stored", x.value(0, 1, 1), 1);
        Bounds.due("by what was stored", x.value(0, 1, 2), 1);
        Bounds.due("that is reached", x.process(0, 7), 6);
        Bounds.run(x, 1);
        Bounds.due("behind its LOAD", x.value(0, 1, 0), 0);
        Bounds.due("loaded", x.value(0, 0, 1), 1);
        Bounds.run(x, 2);
        Bounds.due("with two nodes no room for a row of twelve", x.process(0, 1), 5);
        x = Bounds.alone("record 0 0\n", "PUSH 1, ZERO e, NEW 0, STORE 1, e: PUSH 12, ROW, PUSH 0, ROW, EXIT");
        Bounds.run(x, 6);
        Bounds.due("with one there is", x.process(0, 7), 16);
        Bounds.run(x, 2);
        Bounds.due("and no more", x.process(0, 1), 5);
    }

    private static void pointers() {
        Bounds.says("of a node or row 1 (NIL 0)");
        String makers = "NIL, NEW 0, NIL, PUSH 0, ROW, PUSH 1, ROWS 0, ";
        SealedProcesses x = Bounds.alone("record 0\n", makers + "STORE 0, STORE 1, STORE 2, STORE 3, EXIT");
        Bounds.run(x, 7);
        int[] stack = {0, 1, 0, 1, 1};
        for (int i = 0; i < 5; i++) {
            Bounds.due("stack place " + i, x.value(0, 0, i), stack[i]);
        }
        Bounds.run(x, 4);
        for (int i = 0; i < 4; i++) {
            Bounds.due("local " + i, x.value(0, 1, i), stack[4 - i]);
        }
    }

    private static void emptyAgain() {
        Bounds.says("of EMPTY 0 (a local is so till something is stored");
        // What the caller had above its stack is nothing to the called one's locals.
        String text = "record 0\nfunction : none 0\n" + " PUSH 7\n".repeat(12) + " POP\n".repeat(11)
            + " CALL 1\n EXIT\nfunction 0 : none 10\n YIELD\n RETURN\n";
        SealedProcesses x = Bounds.booted(text, PLAIN);
        Bounds.run(x, 24);
        for (int l = 0; l < 10; l++) {
            Bounds.due("local " + l, x.value(0, 1, l), l == 0 ? 7 : 0);
        }
        x = Bounds.booted("record 0\nfunction : none 0\n" + " NEW 0\n".repeat(8) + " POP\n".repeat(8)
            + " CALL 1\n EXIT\nfunction : none 10\n YIELD\n RETURN\n", PLAIN);
        Bounds.run(x, 17);
        Bounds.due("the called one's locals reach nothing", x.process(0, 7), 0);
        // Neither is what was there ahead of a boot, or of a SPAWN.
        text = "function : none 3\n PUSH 5\n STORE 0\n PUSH 6\n STORE 2\n EXIT\n"
            + "function : none 3\n YIELD\n SPAWN 2\n EXIT\nfunction : none 3\n YIELD\n EXIT\n";
        x = Bounds.booted(text, PLAIN, Asm.process(0, 1, 1));
        Bounds.run(x, 4);
        Bounds.due("local 2", x.value(0, 1, 2), 6);
        Check.boot(x, PLAIN, Asm.process(0, 1, 1));
        for (int l = 0; l < 3; l++) {
            Bounds.due("local " + l + " behind boot", x.value(0, 1, l), 0);
        }
        Bounds.run(x, 5 + 1 + 1);
        Bounds.due("its number again", x.process(0, 3), 2);
        for (int l = 0; l < 3; l++) {
            Bounds.due("local " + l + " of the spawned", x.value(0, 1, l), 0);
        }
    }

    private static void reached() {
        Bounds.says("7 cells that it reaches");
        SealedProcesses x = Bounds.alone("record 0 1.0\n",
            "PUSH 6, ROW, POP, NEW 0, DUP, NEW 0, PUT 1, DUP, STORE 0, DUP, NIL, "
            + "PUT 1, POP, NIL, STORE 0, EXIT");
        int[] want = {0, 7, 0, 3, 3, 6, 6, 6, 6, 6, 6, 3, 3, 3, 0};
        for (int step = 0; step < want.length; step++) {
            Bounds.run(x, 1);
            Bounds.due("cells behind step " + (step + 1), x.process(0, 7), want[step]);
            Bounds.due("and once more", x.process(0, 7), want[step]);
        }
        // Four nodes, each with the next; then another alone: what was reached once is nothing to what is reached now.
        String more = "NEW 0, DUP, LOAD 0, PUT 1, STORE 0, ";
        x = Bounds.alone("record 0 1.0\n", "NEW 0, STORE 0, " + more.repeat(3)
            + "YIELD, NEW 0, STORE 0, YIELD, NIL, STORE 0, EXIT");
        Bounds.run(x, 18);
        Bounds.due("four nodes", x.process(0, 7), 12);
        Bounds.run(x, 3);
        Bounds.due("one node", x.process(0, 7), 3);
        Bounds.due("and once more", x.process(0, 7), 3);
        Bounds.run(x, 2);
        Bounds.due("none", x.process(0, 7), 0);
    }

    private static void block() {
        Bounds.says("Of a block: 0 how many fields, 1 its owner: a process, or, while it waits, 100 and twice the "
            + "channel and the side that it waits for; 10 and on its fields.");
        SealedProcesses x = busy();
        int[] whats = {LEAST, -1, 0, 1, 2, 9, 10, 11, 12, 13, 15, 16, MOST};
        int[] first = {NONE, NONE, 3, 101, NONE, NONE, 0, -1, 9, NONE, NONE, NONE, NONE};
        int[] second = {NONE, NONE, 3, 0, NONE, NONE, 0, 0, 0, NONE, NONE, NONE, NONE};
        Bounds.says("NONE when there is none such.");
        for (int i = 0; i < whats.length; i++) {
            Bounds.due("block(0, " + whats[i] + ")", x.block(0, whats[i]), first[i]);
            Bounds.due("block(1, " + whats[i] + ")", x.block(1, whats[i]), second[i]);
            for (int b : new int[] {LEAST, -1, 2, 127, 128, MOST}) {
                Bounds.due("block(" + b + ", " + whats[i] + ")", x.block(b, whats[i]), NONE);
            }
        }
        Bounds.due("nothing is booted", new SealedProcesses().block(0, 0), NONE);
        // The smallest and the largest.
        SealedProcesses y = Bounds.alone("record 0\nrecord 0 0 0 0 0 0\n", "BLOCK 0, BLOCK 1, PUSH 4, SET 5, EXIT");
        Bounds.run(y, 4);
        Bounds.due("one field", y.block(0, 0), 1);
        Bounds.due("its only", y.block(0, 10), 0);
        Bounds.due("no second", y.block(0, 11), NONE);
        Bounds.due("six fields", y.block(1, 0), 6);
        Bounds.due("its last", y.block(1, 15), 4);
        Bounds.due("no seventh", y.block(1, 16), NONE);
        Bounds.run(y, 1);
        Bounds.due("gone", y.block(0, 0), NONE);
    }

    private static void channel() {
        Bounds.says("Of a channel: of the client's end (side 0), the server's (1): 0 its state, 1 its owner (as of "
            + "blocks), 2 messages that wait for it; NONE when that end is closed, or there is no such channel.");
        SealedProcesses x = busy();
        Bounds.dueAll("client's", Probe.end(x, 0, 0), 0, 0, 0);
        Bounds.dueAll("server's", Probe.end(x, 0, 1), 0, 1, 1);
        for (int what : new int[] {LEAST, -1, 3, 4, MOST}) {
            Bounds.due("channel(0, 0, " + what + ")", x.channel(0, 0, what), NONE);
            Bounds.due("channel(0, 1, " + what + ")", x.channel(0, 1, what), NONE);
        }
        for (int what = 0; what < 3; what++) {
            for (int side : new int[] {LEAST, -2, -1, 2, 3, MOST}) {
                Bounds.due("channel(0, " + side + ", " + what + ")", x.channel(0, side, what), NONE);
            }
            for (int c : new int[] {LEAST, -1073741824, -1, 1, 11, 12, 1073741824, MOST}) {
                Bounds.due("channel(" + c + ", 0, " + what + ")", x.channel(c, 0, what), NONE);
                Bounds.due("channel(" + c + ", 1, " + what + ")", x.channel(c, 1, what), NONE);
            }
        }
        Bounds.due("nothing is booted", new SealedProcesses().channel(0, 0, 0), NONE);
        // The last state, and the twelfth channel.
        String states = "contract\n state client none>7\n" + " state nobody\n".repeat(7);
        SealedProcesses y = Bounds.booted(states + "function : none 2\n CHANNEL 0\n SWAP\n SEND 0\n CALL 0\n EXIT\n",
            PLAIN);
        Bounds.run(y, 4 * 12 - 1);
        Bounds.dueAll("the last state", Probe.end(y, 11, 0), 7, 0, 0);
        Bounds.dueAll("the other end's", Probe.end(y, 11, 1), 0, 0, 1);
        Bounds.due("no more", y.channel(12, 0, 0), NONE);
        // A side that is none is not one of the channel beside.
        for (int what = 0; what < 3; what++) {
            for (int side : new int[] {LEAST, -2, -1, 2, 3, MOST}) {
                Bounds.due("channel(5, " + side + ", " + what + ")", y.channel(5, side, what), NONE);
            }
            Bounds.due("channel(12, -1, " + what + ")", y.channel(12, -1, what), NONE);
            Bounds.due("channel(-1, 2, " + what + ")", y.channel(-1, 2, what), NONE);
        }
    }

    private static void output() {
        Bounds.says("Of an OUT: 0 which process, 1 its INT. NONE when there is none such (and for an INT that is "
            + "NONE).");
        SealedProcesses x = busy();
        Bounds.due("whose", x.output(0, 0), 0);
        Bounds.due("an INT that is NONE", x.output(0, 1), NONE);
        Bounds.due("the last", x.output(1, 1), 6);
        for (int what : new int[] {LEAST, -1, 2, 3, MOST}) {
            Bounds.due("output(0, " + what + ")", x.output(0, what), NONE);
        }
        for (int i : new int[] {LEAST, -1, 2, 3, 499, 500, 501, MOST}) {
            Bounds.due("output(" + i + ", 0)", x.output(i, 0), NONE);
            Bounds.due("output(" + i + ", 1)", x.output(i, 1), NONE);
        }
        Bounds.due("nothing is booted", new SealedProcesses().output(0, 0), NONE);
    }

    private static int[] snapshot(SealedProcesses x) {
        List<Integer> all = new ArrayList<>(List.of(x.fault(0), x.fault(1)));
        for (int m = 0; m < 2; m++) {
            for (int what = 0; what < 4; what++) {
                all.add(x.module(m, 0, what));
            }
            all.add(x.typeAt(m, 0, 2, 1, 1));
        }
        for (int number : Probe.about(x)) {
            all.add(number);
        }
        for (int p = 0; p < 4; p++) {
            for (int number : Probe.process(x, p)) {
                all.add(number);
            }
            for (int i = 0; i < 3; i++) {
                all.add(x.value(p, 0, i));
                all.add(x.value(p, 1, i));
            }
        }
        for (int i = 0; i < 2; i++) {
            for (int number : Probe.end(x, 0, i)) {
                all.add(number);
            }
            for (int what : new int[] {0, 1, 10, 11, 12}) {
                all.add(x.block(i, what));
            }
            all.add(x.output(i, 0));
            all.add(x.output(i, 1));
        }
        return Asm.row(all);
    }

    private static void dueSame(String what, int[] before, int[] behind, int from) {
        int place = Arrays.mismatch(Arrays.copyOfRange(before, from, before.length),
            Arrays.copyOfRange(behind, from, behind.length));
        Bounds.due(what + " changes nothing", place, -1);
    }

    /** A call on a busy object changes nothing that can be seen, then or later, but the fault if it loads or boots. */
    private static void dueNothing(String what, int want, boolean faults, ToIntFunction<SealedProcesses> call) {
        SealedProcesses x = busy();
        SealedProcesses twin = busy();
        int from = faults ? 2 : 0;
        int[] before = snapshot(x);
        Bounds.due(what, call.applyAsInt(x), want);
        dueSame(what, before, snapshot(x), from);
        if (!faults) {
            Bounds.due(what + ": the tape", x.feed(0, 0, 0, 0, 0), 20);
        }
        Bounds.due(what + ": steps then", x.run(77), twin.run(77));
        dueSame(what + " later", snapshot(twin), snapshot(x), from);
    }

    private static int asNumber(boolean answer) {
        return answer ? 1 : 0;
    }

    private static void refusedCallsChangeNothing() {
        Bounds.says("A call that answers NONE, or less than that, or false, changes nothing but what is said.");
        for (int n : OUTSIDE) {
            dueNothing("load(" + n + ")", -2, false, x -> x.load(n));
            dueNothing("boot(" + n + ")", -2, false, x -> x.boot(n));
            dueNothing("run(" + n + ")", NONE, false, x -> x.run(n));
            dueNothing("discard(" + n + ")", 0, false, x -> asNumber(x.discard(n)));
            dueNothing("fault(" + n + ")", NONE, false, x -> x.fault(n));
            dueNothing("about(" + n + ")", NONE, false, x -> x.about(n));
            dueNothing("module(" + n + ", ..)", NONE, false, x -> x.module(n, n, n));
            dueNothing("typeAt(" + n + ", ..)", NONE, false, x -> x.typeAt(n, n, n, n, n));
            dueNothing("process(" + n + ", ..)", NONE, false, x -> x.process(n, n));
            dueNothing("value(" + n + ", ..)", LEAST, false, x -> x.value(n, n, n));
            dueNothing("block(" + n + ", ..)", NONE, false, x -> x.block(n, n));
            dueNothing("channel(" + n + ", ..)", NONE, false, x -> x.channel(n, n, n));
            dueNothing("output(" + n + ", ..)", NONE, false, x -> x.output(n, n));
        }
        dueNothing("run(10001)", NONE, false, x -> x.run(10001));
        dueNothing("load(1)", -2, false, x -> x.load(1));
        dueNothing("boot(1)", -2, false, x -> x.boot(1));
        dueNothing("discard(1)", 0, false, x -> asNumber(x.discard(1)));
        dueNothing("discard(6)", 0, false, x -> asNumber(x.discard(6)));
        // Neither does what only tells something.
        dueNothing("all that tells", 0, false, x -> snapshot(x).length * 0);
        dueNothing("run(0)", 0, false, x -> x.run(0));
    }

    private static void refusedLoadsAndBoots() {
        dueNothing("a load with fault 1", NONE, true, x -> Check.load(x, new int[] {83, 77, 9}));
        dueNothing("a load with fault 2", NONE, true, x -> Check.load(x, "function : none 0\n POP\n EXIT\n"));
        dueNothing("a load of no byte", NONE, true, x -> x.load(0));
        dueNothing("a boot of no byte", NONE, true, x -> x.boot(0));
        dueNothing("a boot with fault 1", NONE, true, x -> Check.boot(x, Asm.process(0, 2, 0)));
        dueNothing("a boot with fault 3", NONE, true, x -> Check.boot(x, Asm.process(0, 2, 1), Asm.process(1, 0, 1)));
        dueNothing("a boot with fault 4", NONE, true, x -> Check.boot(x, Asm.process(0, 2, 1), Asm.process(0, 3, 1)));
        dueNothing("a boot with fault 5", NONE, true,
            x -> Check.boot(x, Asm.process(0, 0, 1, 0), Asm.process(0, 0, 1, 0)));
        dueNothing("a boot with fault 6", NONE, true, x -> Check.boot(x, Asm.process(0, 0, 1, 0)));
        dueNothing("a boot with a byte behind", NONE, true, x -> Check.bootBytes(x, new int[] {83, 70, 1, 0, 2, 1, 0}));
        dueNothing("a full tape", NONE, true, x -> {
            for (int i = 0; i < 100; i++) {
                x.feed(i, i, i, i, i);
            }
            return x.feed(1, 2, 3, 4, 5);
        });
        // A full shelf: the modules stay.
        SealedProcesses x = new SealedProcesses();
        for (int m = 0; m < 6; m++) {
            Check.load(x, MAIN.repeat(m + 1));
        }
        Bounds.due("a seventh", Check.load(x, MAIN.repeat(9)), NONE);
        for (int m = 0; m < 6; m++) {
            Bounds.due("module " + m, x.module(m, 0, 2), m + 1);
        }
    }

    private static void fiveHundredAndTwelve() {
        Bounds.says("An object is used for at most 512 calls after it has been made;");
        SealedProcesses x = new SealedProcesses();
        x.feed(0x534D0000, 0x0100FF00, 0x03291400, 0, 0);
        Bounds.due("load, the second", x.load(12), 0);
        x.feed(0x53460100, 0x00010000, 0, 0, 0);
        Bounds.due("boot, the fourth", x.boot(6), 1);
        for (int call = 5; call <= 511; call++) {
            Bounds.due("call " + call, x.run(10000), 10000);
        }
        Bounds.due("the 512th", x.about(0), 507 * 10000);
    }
}
