import java.util.Arrays;

/** Promises 1 to 6: a new object, feed, load, fault, discard, module; and faults 1 of modules. */
public final class ShelfTest {
    // Bytes: 0 83, 77; 2 records; 12 contracts; 21 functions.
    private static final String PLAIN = """
        record 0 1.1
        record 2 3.0 0
        contract
          state client 0>1 none>0
          state nobody
        function 0 5.0.0.0 : none 3
          LOAD 0
          OUT
          EXIT
        function : 0 0
          PUSH 1
          PUSH 2
          PUSH 3
          ADD
          ADD
          RETURN
        """;

    private static final String ALL_NAMES = """
        record 0 0
        record 1.1 3.0 2
        contract
          state client 4.0>1 5.0.1.1>2 0>0
          state server none>2
          state nobody
        function 0 1.1 3.1 4.0 : 5.0.1.0 6
          PUSH 7
          POP
          NEW 1
          POP
          PUSH 1
          ROWS 1
          POP
          BLOCK 0
          FREE
          CHANNEL 0
          STORE 4
          JUMP on
          on: STORE 5
          PUSH 1
          ZERO out
          out: EXIT
        function : none 0
          CALL 1
          SPAWN 1
          RETURN
        function 5.0.1.0 : none 1
          LOAD 0
          RECEIVE got
          got: CLOSE
          RETURN
        """;

    // The bytes of ALL_NAMES that name a record, a contract, a state, a function or a T.
    private static final int[] NAMING_BYTES = {
        8, 10, 17, 18, 20, 21, 23, 25, 29, 36, 38, 40, 42, 43, 54, 62, 65, 68, 72, 81, 88, 90, 94, 95, 104
    };

    private static final int[] ONE_BYTE_BEHIND = {2, 3, 20, 21, 22, 23, 24, 26, 30, 32, 33, 34, 36, 37, 40};

    public static void main(String[] args) {
        newObject();
        feed();
        load();
        shelf();
        module();
        everyPrefix();
        headFaults();
        typeFaults();
        functionFaults();
        codeFaults();
        instructionLengths();
        nameFaults();
        orderOfFaults();
        Check.end();
    }

    private static void newObject() {
        SealedProcesses x = new SealedProcesses();
        Check.due("NONE", SealedProcesses.NONE, -1);
        for (int m = -1; m <= 6; m++) {
            Check.due("new module", x.module(m, 0, 0), Check.NONE);
            Check.due("new typeAt", x.typeAt(m, 0, 0, 1, 0), Check.NONE);
            Check.due("new discard", x.discard(m), false);
        }
        for (int what = -1; what <= 12; what++) {
            Check.due("new about", x.about(what), Check.NONE);
            Check.due("new process", x.process(0, what), Check.NONE);
            Check.due("new fault", x.fault(what), Check.NONE);
            Check.due("new block", x.block(0, what), Check.NONE);
            Check.due("new channel", x.channel(0, 0, what), Check.NONE);
            Check.due("new output", x.output(0, what), Check.NONE);
            Check.due("new value", x.value(0, what, 0), Integer.MIN_VALUE);
        }
        Check.due("new run", x.run(0), Check.NONE);
        Check.due("new load", x.load(1), -2);
        Check.due("new boot", x.boot(1), -2);
        Check.dueFault("behind -2", x, Check.NONE, Check.NONE);
    }

    private static void feed() {
        SealedProcesses x = new SealedProcesses();
        for (int i = 1; i <= 100; i++) {
            Check.due("feed " + i, x.feed(-1, i, 0, 0, 0), 20 * i);
        }
        Check.due("feed beyond 2000", x.feed(0, 0, 0, 0, 0), Check.NONE);
        Check.due("load beyond", x.load(2001), -2);
        Check.due("load below", x.load(-1), -2);
        Check.due("load of all", x.load(2000), Check.NONE);
        Check.dueFault("load of all", x, 1, 0);
        Check.due("feed of an empty tape", x.feed(0, 0, 0, 0, 0), 20);
        Check.due("boot beyond", x.boot(21), -2);
        Check.due("boot below", x.boot(-1), -2);
        Check.due("feed behind -2", x.feed(0, 0, 0, 0, 0), 40);
        Check.due("boot", x.boot(1), Check.NONE);
        Check.due("feed behind boot", x.feed(0, 0, 0, 0, 0), 20);
    }

    private static void load() {
        SealedProcesses x = new SealedProcesses();
        int[] bytes = Asm.module("function : none 0\n PUSH -2\n OUT\n RETURN");
        Check.due("load", Check.load(x, bytes), 0);
        Check.dueFault("load", x, 0, Check.NONE);
        Check.due("fault(2)", x.fault(2), Check.NONE);
        Check.due("fault(-1)", x.fault(-1), Check.NONE);
        Check.due("tape behind load", x.feed(0, 0, 0, 0, 0), 20);
        Check.due("load of no byte", x.load(0), Check.NONE);
        Check.dueFault("load of no byte", x, 1, 0);
        Check.due("load of more than there is", x.load(1), -2);
        Check.dueFault("behind -2", x, 1, 0);
    }

    private static void shelf() {
        SealedProcesses x = new SealedProcesses();
        for (int m = 0; m < 6; m++) {
            Check.due("load", Check.load(x, PLAIN), m);
        }
        Check.due("full", Check.load(x, PLAIN), Check.NONE);
        Check.dueFault("full", x, 0, Check.NONE);
        Check.due("full and wrong", Check.load(x, new int[] {83, 78}), Check.NONE);
        Check.dueFault("full and wrong", x, 1, 1);
        Check.due("discard(-1)", x.discard(-1), false);
        Check.due("discard(6)", x.discard(6), false);
        Check.due("discard", x.discard(4), true);
        Check.due("discard again", x.discard(4), false);
        Check.due("discard", x.discard(1), true);
        Check.due("module gone", x.module(1, 0, 2), Check.NONE);
        Check.due("lowest place", Check.load(x, ALL_NAMES), 1);
        Check.due("next place", Check.load(x, PLAIN), 4);
        Check.due("module of another", x.module(1, 0, 2), 3);
        Check.due("module stays", x.module(0, 0, 2), 2);
    }

    private static void module() {
        SealedProcesses x = Check.withModule(PLAIN);
        int[] want = {2, 1, 2, Asm.module(PLAIN).length};
        for (int what = 0; what < 4; what++) {
            Check.due("module " + what, x.module(0, 99, what), want[what]);
        }
        int[][] functions = {{2, 3, 4, 32, 1}, {0, 0, 18, 40, 3}};
        for (int f = 0; f < 2; f++) {
            for (int i = 0; i < 5; i++) {
                Check.due("module function " + i, x.module(0, f, 10 + i), functions[f][i]);
            }
        }
        for (int what : new int[] {-1, 4, 5, 9, 15, 16, Integer.MIN_VALUE, Integer.MAX_VALUE}) {
            Check.due("module " + what, x.module(0, 0, what), Check.NONE);
        }
        for (int what = 10; what < 15; what++) {
            Check.due("no function", x.module(0, 2, what), Check.NONE);
            Check.due("no function", x.module(0, -1, what), Check.NONE);
        }
        Check.due("no module", x.module(1, 0, 0), Check.NONE);
        Check.due("no module", x.module(-1, 0, 0), Check.NONE);
        Check.due("no module", x.module(6, 0, 0), Check.NONE);
        // What nothing comes to does not count.
        x = Check.withModule("function : none 0\n EXIT\n PUSH 1\n PUSH 1\n EXIT");
        Check.due("most on the stack", x.module(0, 0, 14), 0);
    }

    /** A module that is cut has its fault at the end, unless that is the end of an earlier byte's bounds. */
    private static void everyPrefix() {
        for (String text : new String[] {PLAIN, ALL_NAMES}) {
            int[] bytes = Asm.module(text);
            for (int n = 0; n < bytes.length; n++) {
                dueFault("cut at " + n, Arrays.copyOf(bytes, n), 1, n);
            }
            dueFault("one byte more", Arrays.copyOf(bytes, bytes.length + 1), 1, bytes.length);
        }
        SealedProcesses x = new SealedProcesses();
        Check.due("all names are there", Check.load(x, ALL_NAMES), 0);
    }

    private static void headFaults() {
        dueFault("no 83", new int[] {84, 77, 0, 0, 1}, 1, 0);
        dueFault("no 77", new int[] {83, 70, 0, 0, 1}, 1, 1);
        dueFault("nine records", new int[] {83, 77, 9}, 1, 2);
        dueFault("no field", new int[] {83, 77, 1, 0}, 1, 3);
        dueFault("seven fields", new int[] {83, 77, 1, 7}, 1, 3);
        dueFault("five contracts", new int[] {83, 77, 0, 5}, 1, 3);
        dueFault("no state", new int[] {83, 77, 0, 1, 0}, 1, 4);
        dueFault("nine states", new int[] {83, 77, 0, 1, 9}, 1, 4);
        dueFault("whose turn", new int[] {83, 77, 0, 1, 1, 3}, 1, 5);
        dueFault("nobody's message", new int[] {83, 77, 0, 1, 1, 0, 1}, 1, 6);
        dueFault("client's none", new int[] {83, 77, 0, 1, 1, 1, 0}, 1, 6);
        dueFault("five messages", new int[] {83, 77, 0, 1, 1, 2, 5}, 1, 6);
        dueFault("no function", new int[] {83, 77, 0, 0, 0}, 1, 4);
        dueFault("eleven functions", new int[] {83, 77, 0, 0, 11}, 1, 4);
    }

    private static void typeFaults() {
        for (int type : new int[] {4, 5, 6, 255}) {
            dueFault("field " + type, new int[] {83, 77, 1, 1, type, 0, 0, 0}, 1, 4);
        }
        for (int type : new int[] {1, 2, 3, 6, 254}) {
            dueFault("load " + type, new int[] {83, 77, 0, 1, 1, 1, 1, type, 0, 0}, 1, 7);
        }
        dueFault("side of a load", new int[] {83, 77, 0, 1, 1, 1, 1, 5, 9, 9, 2}, 1, 10);
        dueFault("parameter", new int[] {83, 77, 0, 0, 1, 1, 255}, 1, 6);
        dueFault("parameter", new int[] {83, 77, 0, 0, 1, 1, 6}, 1, 6);
        dueFault("side of a parameter", new int[] {83, 77, 0, 0, 1, 1, 5, 0, 0, 2}, 1, 9);
        dueFault("result", new int[] {83, 77, 0, 0, 1, 0, 6}, 1, 6);
        dueFault("result", new int[] {83, 77, 0, 0, 1, 0, 254}, 1, 6);
    }

    private static void functionFaults() {
        dueFault("five parameters", new int[] {83, 77, 0, 0, 1, 5}, 1, 5);
        dueFault("eleven locals", new int[] {83, 77, 0, 0, 1, 0, 255, 11}, 1, 7);
        dueFault("fewer locals than parameters", new int[] {83, 77, 0, 0, 1, 2, 0, 0, 255, 1}, 1, 9);
        dueFault("no code", new int[] {83, 77, 0, 0, 1, 0, 255, 0, 0}, 1, 8);
        dueFault("241 bytes of code", new int[] {83, 77, 0, 0, 1, 0, 255, 0, 241}, 1, 8);
    }

    // A function without parameters whose code has two locals begins at byte 9.
    private static int[] withCode(int length, int... code) {
        return Asm.join(new int[] {83, 77, 0, 0, 1, 0, 255, 2, length}, code);
    }

    private static void codeFaults() {
        dueFault("no instruction", withCode(1, 44), 1, 9);
        dueFault("no instruction", withCode(2, 41, 255), 1, 10);
        dueFault("no local", withCode(2, 2, 2), 1, 10);
        dueFault("no local", withCode(2, 3, 200), 1, 10);
        for (int op : new int[] {23, 24, 33, 34}) {
            dueFault("field 6", withCode(2, op, 6), 1, 10);
        }
        dueFault("message 4", withCode(2, 37, 4), 1, 10);
        dueFault("receive none", withCode(2, 38, 0), 1, 10);
        dueFault("receive five", withCode(9, 38, 5, 0, 0, 0, 0, 0, 42, 42), 1, 10);
        dueFault("cut constant", withCode(3, 0, 1, 1, 42, 42), 1, 12);
        dueFault("cut constant at the end", withCode(3, 0, 1, 1), 1, 12);
        dueFault("cut operand", withCode(1, 2, 200), 1, 10);
        dueFault("cut targets", withCode(3, 38, 2, 0), 1, 12);
        dueFault("cut count", withCode(1, 38, 2, 0, 0), 1, 10);
        dueFault("the end within the code", withCode(9, 0, 1, 1), 1, 12);
        dueFault("behind the last function", withCode(1, 42, 0), 1, 10);
    }

    /** Each instruction wants just as many bytes behind it as it has. */
    private static void instructionLengths() {
        for (int op = 0; op < 44; op++) {
            int behind = Arrays.binarySearch(ONE_BYTE_BEHIND, op) >= 0 ? 1 : op == 0 ? 4 : op == 38 ? 2 : 0;
            int[] code = {op, op == 38 ? 1 : 0, 0, 0, 0};
            for (int length = 1; length <= behind; length++) {
                dueFault("instruction " + op + " cut", withCode(length, code), 1, 9 + length);
            }
            SealedProcesses x = new SealedProcesses();
            Check.load(x, withCode(1 + behind, Arrays.copyOf(code, 1 + behind)));
            Check.due("instruction " + op + " whole", x.fault(0) == 1 && x.fault(1) != 10, false);
        }
    }

    private static void nameFaults() {
        int[] good = Asm.module(ALL_NAMES);
        for (int place : NAMING_BYTES) {
            int[] bytes = good.clone();
            bytes[place] = 200;
            dueFault("name at " + place, bytes, 1, place);
        }
        for (int place : new int[] {17, 40, 65}) {
            int[] bytes = good.clone();
            bytes[place] = 1;
            dueFault("a block of pointers at " + place, bytes, 1, place);
        }
        for (int place : new int[] {72, 81, 104}) {
            int[] bytes = good.clone();
            bytes[place] = bytes[place] - 1;
            dueFault("a T within an instruction at " + place, bytes, 1, place);
        }
        for (int place : new int[] {18, 21, 23, 25, 29, 43, 95}) {
            int[] bytes = good.clone();
            bytes[place] = 3;
            dueFault("state 3 at " + place, bytes, 1, place);
        }
        for (int place : new int[] {8, 10, 36, 38, 54, 62}) {
            int[] bytes = good.clone();
            bytes[place] = 2;
            dueFault("record 2 at " + place, bytes, 1, place);
        }
        int[] behind = Asm.module("function : none 0\n here: YIELD\n JUMP here");
        behind[behind.length - 1] = 3;
        dueFault("the T behind the code", behind, 1, behind.length - 1);
    }

    private static void orderOfFaults() {
        int[] bytes = Asm.module(ALL_NAMES);
        bytes[8] = 200;
        bytes[72] = 200;
        dueFault("the first name", bytes, 1, 8);
        bytes[bytes.length - 1] = 99;
        dueFault("form ahead of names", bytes, 1, bytes.length - 1);
        String wrong = "function : none 0\n EXIT\nfunction : none 0\n POP\n EXIT\nfunction : none 0\n YIELD";
        dueFault("first wrong function", Asm.module(wrong), 2, 14);
        dueFault("names ahead of wrong functions", Asm.module(wrong + "\n JUMP 9"), 1, 22);
    }

    private static void dueFault(String what, int[] bytes, int kind, int place) {
        SealedProcesses x = new SealedProcesses();
        Check.due(what + ": load", Check.load(x, bytes), Check.NONE);
        Check.dueFault(what, x, kind, place);
        Check.due(what + ": nothing on the shelf", x.module(0, 0, 0), Check.NONE);
    }
}
