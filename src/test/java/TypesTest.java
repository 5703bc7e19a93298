/** Promise 7, and which code is right (faults 2 of load). */
public final class TypesTest {
    private static final String HEAD = """
        record 0 0
        record 1.1 0 2 3.1
        contract
          state client none>1 0>0 4.0>0 5.1.0.1>2
          state server none>0 0>2 4.0>2
          state nobody
        contract
          state server none>1
          state nobody
        contract
          state client 5.0.0.0>1
          state nobody
        """;

    private static final String TAIL = """
        function : none 0
          RETURN
        function 0 1.1 : 1.1 2
          LOAD 1
          RETURN
        function 5.0.0.0 4.0 : none 2
          EXIT
        function 2 : none 1
          RETURN
        function : 0 0
          PUSH 1
          RETURN
        """;

    public static void main(String[] args) {
        stackAndLocals();
        numbers();
        flow();
        joins();
        heap();
        calls();
        returns();
        blocks();
        ends();
        nilTraps();
        depth();
        typesAt();
        typesOfLoops();
        Check.end();
    }

    /** The tested function is the first; what stands ahead of its code is "parameters : result locals". */
    private static SealedProcesses loaded(String head, String code) {
        SealedProcesses x = new SealedProcesses();
        Check.load(x, HEAD + "function " + head + "\n" + code.replace(", ", "\n") + "\n" + TAIL);
        return x;
    }

    private static void right(String head, String code) {
        SealedProcesses x = loaded(head, code);
        Check.due("right: " + head + " | " + code + " (" + x.fault(1) + ")", x.fault(0), 0);
        Check.due("on the shelf", x.module(0, 0, 2), 6);
    }

    private static void wrong(String head, String code) {
        SealedProcesses x = loaded(head, code);
        Check.due("wrong: " + head + " | " + code, x.fault(0), 2);
        Check.due("its place", x.fault(1) > 40 && x.fault(1) < 80, true);
        Check.due("not on the shelf", x.module(0, 0, 2), Check.NONE);
    }

    private static void stackAndLocals() {
        right(": none 1", "PUSH 1, STORE 0, LOAD 0, POP, RETURN");
        wrong(": none 1", "LOAD 0, POP, RETURN");
        right(": none 1", "NIL, STORE 0, LOAD 0, POP, RETURN");
        wrong(": none 1", "STORE 0, RETURN");
        wrong(": none 0", "POP, RETURN");
        wrong(": none 0", "BLOCK 0, POP, RETURN");
        wrong(": none 0", "BLOCK 0, DUP, EXIT");
        wrong("5.0.0.0 : none 1", "LOAD 0, DUP, EXIT");
        right("5.0.0.0 : none 1", "EXIT");
        wrong("4.0 : none 1", "LOAD 0, FREE, LOAD 0, EXIT");
        right("4.0 : none 1", "LOAD 0, STORE 0, EXIT");
        wrong("4.0 : none 1", "BLOCK 0, STORE 0, EXIT");
        wrong("4.0 : none 1", "PUSH 1, STORE 0, EXIT");
        right(": none 1", "PUSH 1, STORE 0, BLOCK 0, STORE 0, EXIT");
        wrong(": none 0", "DUP, EXIT");
        wrong(": none 0", "PUSH 1, SWAP, EXIT");
        right(": none 0", "BLOCK 0, PUSH 1, SWAP, FREE, POP, RETURN");
        wrong(": none 0", "BLOCK 0, PUSH 1, SWAP, POP, FREE, RETURN");
    }

    private static void numbers() {
        for (int op = 7; op <= 18; op++) {
            String name = Asm.NAMES.get(op);
            right(": none 0", "PUSH 1, PUSH 2, " + name + ", OUT, RETURN");
            wrong(": none 0", "PUSH 1, " + name + ", OUT, RETURN");
            wrong(": none 0", "NIL, PUSH 2, " + name + ", OUT, RETURN");
            wrong(": none 0", "PUSH 2, NIL, " + name + ", OUT, RETURN");
        }
        wrong(": none 0", "OUT, RETURN");
        wrong(": none 0", "NIL, OUT, RETURN");
        right(": none 0", "NIL, NONE, OUT, RETURN");
        right("1.1 2 3.1 : none 3", "LOAD 0, NONE, OUT, LOAD 1, NONE, OUT, LOAD 2, NONE, OUT, RETURN");
        wrong(": none 0", "PUSH 0, NONE, OUT, RETURN");
        wrong(": none 0", "BLOCK 0, NONE, OUT, RETURN");
        wrong(": none 0", "NONE, OUT, RETURN");
    }

    private static void flow() {
        wrong(": none 0", "YIELD");
        wrong(": none 0", "PUSH 1, OUT");
        wrong(": none 0", "PUSH 1, e: ZERO e");
        right(": none 0", "b: YIELD, JUMP b");
        right(": none 0", "b: PUSH 1, ZERO b, EXIT");
        right(": none 0", "EXIT, POP, POP");
        right(": none 0", "JUMP e, POP, e: EXIT");
        wrong(": none 0", "NIL, ZERO e, e: EXIT");
        wrong(": none 0", "ZERO e, e: EXIT");
        right(": none 0", "BLOCK 0, CHANNEL 0, PUSH 1, EXIT");
        wrong(": none 0", "b: PUSH 1, JUMP b");
        wrong(": none 0", "PUSH 0, ZERO e, PUSH 1, e: EXIT");
    }

    private static void joins() {
        // NIL and a pointer join to the pointer, on the stack and in locals.
        right("1.1 : none 1", "PUSH 0, ZERO n, LOAD 0, JUMP j, n: NIL, j: GET 1, OUT, RETURN");
        right("2 : none 1", "PUSH 0, ZERO n, NIL, STORE 0, n: LOAD 0, LENGTH, OUT, RETURN");
        right("3.1 : none 1", "PUSH 0, ZERO n, NIL, JUMP j, n: LOAD 0, j: LENGTH, OUT, RETURN");
        wrong("1.1 2 : none 2", "PUSH 0, ZERO n, LOAD 0, JUMP j, n: LOAD 1, j: POP, RETURN");
        wrong("1.1 : none 1", "PUSH 0, ZERO n, LOAD 0, JUMP j, n: NEW 0, j: POP, RETURN");
        wrong(": none 0", "PUSH 0, ZERO n, PUSH 1, JUMP j, n: NIL, j: POP, RETURN");
        // Locals that differ are EMPTY behind.
        right("1.1 : none 1", "PUSH 0, ZERO n, PUSH 5, STORE 0, n: RETURN");
        wrong("1.1 : none 1", "PUSH 0, ZERO n, PUSH 5, STORE 0, n: LOAD 0, POP, RETURN");
        right("0 : none 2", "PUSH 0, ZERO n, PUSH 5, STORE 1, n: PUSH 6, STORE 1, LOAD 1, OUT, RETURN");
        wrong("0 : none 2", "PUSH 0, ZERO n, PUSH 5, STORE 1, n: LOAD 1, OUT, RETURN");
        // Nothing linear may be among them.
        wrong("4.0 : none 1", "PUSH 0, ZERO n, LOAD 0, FREE, n: EXIT");
        wrong(": none 1", "PUSH 0, ZERO n, BLOCK 0, STORE 0, n: EXIT");
        wrong("4.0 : none 1", "PUSH 0, ZERO n, LOAD 0, FREE, PUSH 1, STORE 0, n: EXIT");
        right("4.0 : none 1", "PUSH 0, ZERO n, LOAD 0, FREE, BLOCK 0, STORE 0, n: EXIT");
        right("4.0 : none 1", "b: LOAD 0, STORE 0, JUMP b");
        // Ends of another state or side are others.
        wrong(": none 0", "CHANNEL 0, PUSH 0, ZERO n, SWAP, n: EXIT");
        wrong("5.0.0.0 : none 1", "LOAD 0, PUSH 0, ZERO n, SEND 0, n: EXIT");
        right("5.0.0.0 : none 1", "LOAD 0, PUSH 0, ZERO n, PUSH 7, SEND 1, n: EXIT");
    }

    private static void heap() {
        right(": none 0", "NEW 1, DUP, NIL, PUT 0, DUP, PUSH 1, PUT 1, DUP, NEW 1, PUT 0, GET 0, POP, RETURN");
        wrong(": none 0", "NEW 1, NEW 0, PUT 0, RETURN");
        wrong(": none 0", "NEW 1, NIL, PUT 1, RETURN");
        wrong(": none 0", "NEW 1, PUSH 1, PUT 0, RETURN");
        right(": none 0", "NEW 1, PUSH 1, ROW, PUT 2, NEW 1, PUSH 1, ROWS 1, PUT 3, RETURN");
        wrong(": none 0", "NEW 1, PUSH 1, ROWS 1, PUT 2, RETURN");
        wrong(": none 0", "NEW 1, PUSH 1, ROWS 0, PUT 3, RETURN");
        wrong(": none 0", "NEW 0, GET 2, POP, RETURN");
        wrong(": none 0", "NEW 1, PUSH 1, PUT 4, RETURN");
        wrong(": none 0", "NEW 1, BLOCK 0, PUT 0, RETURN");
        wrong(": none 0", "PUSH 1, GET 0, POP, RETURN");
        wrong(": none 0", "PUSH 1, ROW, GET 0, POP, RETURN");
        wrong(": none 0", "BLOCK 0, GET 0, POP, RETURN");
        wrong(": none 0", "NIL, ROW, POP, RETURN");
        wrong(": none 0", "NIL, ROWS 1, POP, RETURN");
        right(": none 0", "PUSH 1, ROW, LENGTH, OUT, PUSH 1, ROWS 1, LENGTH, OUT, RETURN");
        wrong(": none 0", "NEW 1, LENGTH, OUT, RETURN");
        right(": none 0", "PUSH 1, ROWS 1, PUSH 0, TAKE, GET 1, OUT, RETURN");
        wrong(": none 0", "PUSH 1, ROW, PUSH 0, TAKE, GET 1, OUT, RETURN");
        wrong(": none 0", "PUSH 1, ROW, NIL, TAKE, OUT, RETURN");
        wrong(": none 0", "NEW 1, PUSH 0, TAKE, OUT, RETURN");
        right(": none 0", "PUSH 1, ROWS 1, PUSH 0, NIL, LAY, PUSH 1, ROWS 1, PUSH 0, NEW 1, LAY, RETURN");
        wrong(": none 0", "PUSH 1, ROWS 1, PUSH 0, NEW 0, LAY, RETURN");
        wrong(": none 0", "PUSH 1, ROW, PUSH 0, NIL, LAY, RETURN");
        right(": none 0", "PUSH 1, ROW, PUSH 0, PUSH 9, LAY, RETURN");
        wrong(": none 0", "NEW 1, PUSH 0, PUSH 9, LAY, RETURN");
    }

    private static void calls() {
        right(": none 0", "CALL 1, RETURN");
        right(": none 0", "PUSH 1, NEW 1, CALL 2, GET 1, OUT, RETURN");
        right(": none 0", "PUSH 1, NIL, CALL 2, GET 1, OUT, RETURN");
        wrong(": none 0", "NEW 1, PUSH 1, CALL 2, POP, RETURN");
        wrong(": none 0", "PUSH 1, NEW 0, CALL 2, POP, RETURN");
        wrong(": none 0", "NEW 1, CALL 2, POP, RETURN");
        right(": none 0", "CALL 5, OUT, RETURN");
        wrong(": none 0", "CALL 5, RETURN");
        right(": none 0", "CHANNEL 0, SWAP, BLOCK 0, CALL 3, EXIT");
        wrong(": none 0", "CHANNEL 0, BLOCK 0, CALL 3, EXIT");
        right(": none 0", "CHANNEL 0, SWAP, BLOCK 0, SPAWN 3, EXIT");
        right(": none 0", "SPAWN 1, RETURN");
        wrong(": none 0", "SPAWN 5, EXIT");
        wrong(": none 0", "NIL, SPAWN 4, EXIT");
        wrong(": none 0", "PUSH 1, NEW 1, SPAWN 2, EXIT");
        wrong(": none 0", "BLOCK 0, SPAWN 3, EXIT");
    }

    private static void returns() {
        wrong(": none 0", "PUSH 1, RETURN");
        wrong(": 0 0", "RETURN");
        right(": 0 0", "PUSH 1, RETURN");
        wrong(": 0 0", "PUSH 1, PUSH 1, RETURN");
        wrong(": 0 0", "NIL, RETURN");
        right(": 1.1 0", "NIL, RETURN");
        right(": 1.1 0", "NEW 1, RETURN");
        wrong(": 1.1 0", "NEW 0, RETURN");
        right(": 2 0", "NIL, RETURN");
        right(": 4.0 0", "BLOCK 0, RETURN");
        wrong(": 4.0 0", "NIL, RETURN");
        wrong("4.0 : none 1", "RETURN");
        right("4.0 : 4.0 1", "LOAD 0, RETURN");
        wrong("5.0.0.0 : none 1", "RETURN");
        wrong("5.0.0.0 : 5.0.0.1 1", "LOAD 0, RETURN");
        right("5.0.0.0 : 5.0.1.0 1", "LOAD 0, SEND 0, RETURN");
    }

    private static void blocks() {
        right(": none 0", "BLOCK 0, SEE 1, OUT, PUSH 3, SET 1, FREE, RETURN");
        wrong(": none 0", "BLOCK 0, SEE 2, OUT, FREE, RETURN");
        wrong(": none 0", "BLOCK 0, PUSH 1, SET 2, FREE, RETURN");
        wrong(": none 0", "BLOCK 0, SET 0, FREE, RETURN");
        wrong(": none 0", "BLOCK 0, NIL, SET 0, FREE, RETURN");
        wrong(": none 0", "PUSH 1, FREE, RETURN");
        wrong(": none 0", "NEW 0, SEE 0, EXIT");
        wrong(": none 0", "NEW 0, FREE, RETURN");
        wrong(": none 0", "CHANNEL 0, FREE, EXIT");
    }

    private static void ends() {
        right("5.0.0.0 : none 1", "LOAD 0, SEND 0, EXIT");
        right("5.0.0.0 : none 1", "LOAD 0, PUSH 1, SEND 1, SEND 0, EXIT");
        right("5.0.0.0 : none 1", "LOAD 0, BLOCK 0, SEND 2, EXIT");
        wrong("5.0.0.0 : none 1", "LOAD 0, SEND 1, EXIT");
        wrong("5.0.0.0 : none 1", "LOAD 0, PUSH 1, SEND 0, EXIT");
        wrong("5.0.0.0 : none 1", "LOAD 0, PUSH 1, SEND 2, EXIT");
        wrong("5.0.0.0 : none 1", "LOAD 0, NIL, SEND 1, EXIT");
        wrong("5.0.0.1 : none 1", "LOAD 0, SEND 0, EXIT");
        wrong("5.0.1.0 : none 1", "LOAD 0, SEND 0, EXIT");
        right("5.0.1.1 : none 1", "LOAD 0, SEND 0, EXIT");
        wrong("5.0.1.1 : none 1", "LOAD 0, PUSH 1, SEND 3, EXIT");
        wrong("5.0.2.0 : none 1", "LOAD 0, SEND 0, EXIT");
        wrong(": none 0", "SEND 0, EXIT");
        // The load is an end itself: the highest is the end only if its own message t has no load.
        right("5.0.0.0 5.1.0.1 : none 2", "LOAD 0, LOAD 1, SEND 3, CLOSE, EXIT");
        wrong("5.0.0.0 5.1.0.1 : none 2", "LOAD 1, LOAD 0, SEND 3, EXIT");
        right("5.0.0.0 5.1.0.1 : none 2", "LOAD 0, LOAD 1, SEND 0, CLOSE, SEND 0, EXIT");
        wrong("5.2.0.0 5.0.0.0 : none 2", "LOAD 0, LOAD 1, SEND 0, CLOSE, EXIT");
        right("5.0.1.0 : none 1", "LOAD 0, RECEIVE a b c, a: EXIT, b: POP, CLOSE, EXIT, c: FREE, CLOSE, EXIT");
        wrong("5.0.1.0 : none 1", "LOAD 0, RECEIVE a b b, a: EXIT, b: POP, CLOSE, EXIT");
        wrong("5.0.1.0 : none 1", "LOAD 0, RECEIVE a a, a: EXIT");
        wrong("5.0.1.0 : none 1", "LOAD 0, RECEIVE a a a a, a: EXIT");
        wrong("5.0.1.1 : none 1", "LOAD 0, RECEIVE a b c, a: EXIT, b: EXIT, c: EXIT");
        wrong("5.0.2.1 : none 1", "LOAD 0, RECEIVE a, a: EXIT");
        wrong(": none 1", "PUSH 1, RECEIVE a, a: EXIT");
        right("5.0.0.1 : none 1", "LOAD 0, RECEIVE a b c d, a: EXIT, b: EXIT, c: EXIT, d: EXIT");
        right("5.0.2.0 5.0.2.1 : none 2", "LOAD 0, CLOSE, LOAD 1, CLOSE, RETURN");
        wrong("5.0.0.0 : none 1", "LOAD 0, CLOSE, RETURN");
        wrong("5.0.1.0 : none 1", "LOAD 0, CLOSE, RETURN");
        wrong(": none 1", "BLOCK 0, CLOSE, RETURN");
        right(": none 0", "CHANNEL 1, SEND 0, CLOSE, RECEIVE a, a: CLOSE, RETURN");
        wrong(": none 0", "CHANNEL 1, SWAP, SEND 0, EXIT");
    }

    private static void nilTraps() {
        // Nothing comes behind what is surely NIL.
        right(": none 0", "NIL, GET 5, POP, POP");
        right(": none 0", "NIL, PUSH 1, PUT 5");
        right(": none 0", "NIL, BLOCK 0, PUT 0");
        right(": none 0", "NIL, LENGTH");
        right(": none 0", "NIL, PUSH 1, TAKE");
        right(": none 0", "NIL, PUSH 1, BLOCK 0, LAY");
        wrong(": none 0", "NIL, PUT 0");
        wrong(": none 0", "NIL, TAKE");
        wrong(": none 0", "NIL, NIL, TAKE");
        wrong(": none 0", "NIL, NIL, PUSH 1, LAY");
        wrong(": none 0", "NIL, NONE");
        // Behind a join it may be more than NIL.
        wrong("1.1 : none 1", "PUSH 0, ZERO n, LOAD 0, JUMP j, n: NIL, j: GET 1");
        wrong("2 : none 1", "PUSH 0, ZERO n, NIL, JUMP j, n: LOAD 0, j: GET 1, EXIT");
    }

    private static void depth() {
        right(": none 0", "PUSH 1, ".repeat(16) + "EXIT");
        wrong(": none 0", "PUSH 1, ".repeat(17) + "EXIT");
        wrong(": none 0", "PUSH 1, ".repeat(16) + "DUP, EXIT");
        right(": none 0", "PUSH 1, ".repeat(16) + "POP, PUSH 1, ADD, PUSH 2, SWAP, OUT, EXIT");
        wrong(": none 0", "PUSH 1, ".repeat(15) + "CHANNEL 0, EXIT");
        right(": none 0", "PUSH 1, ".repeat(14) + "CHANNEL 0, EXIT");
        wrong("5.0.1.0 : none 1", "PUSH 1, ".repeat(15) + "LOAD 0, RECEIVE a b b, a: EXIT, b: EXIT");
        wrong("4.0 : none 1", "PUSH 1, ".repeat(15) + "LOAD 0, SEE 0, EXIT");
        SealedProcesses x = loaded(": none 0", "PUSH 1, ".repeat(16) + "EXIT");
        Check.due("most on the stack", x.module(0, 0, 14), 16);
        Check.due("the sixteenth", x.typeAt(0, 0, 80, 0, 15), 0);
        Check.due("the seventeenth", x.typeAt(0, 0, 80, 0, 16), Check.NONE);
    }

    private static void typesAt() {
        SealedProcesses x = loaded("0 1.1 5.0.0.0 4.0 : none 7",
            "NIL, STORE 4, PUSH 1, ROW, PUSH 1, ROWS 1, LOAD 1, LOAD 2, LOAD 3, NIL, EXIT, EXIT");
        int place = 1 + 2 + 5 + 1 + 5 + 2 + 2 + 2 + 2 + 1;
        int[] stack = {2, 3, 1, 5, 4, 6};
        for (int i = -1; i <= 6; i++) {
            Check.due("stack " + i, x.typeAt(0, 0, place, 0, i), i < 0 || i == 6 ? Check.NONE : stack[i]);
        }
        int[] locals = {0, 1, 7, 7, 6, 7, 7};
        for (int i = -1; i <= 7; i++) {
            Check.due("local " + i, x.typeAt(0, 0, place, 1, i), i < 0 || i == 7 ? Check.NONE : locals[i]);
        }
        Check.due("first place", x.typeAt(0, 0, 0, 1, 2), 5);
        Check.due("first place", x.typeAt(0, 0, 0, 1, 3), 4);
        Check.due("first place", x.typeAt(0, 0, 0, 0, 0), Check.NONE);
        Check.due("nothing comes", x.typeAt(0, 0, place + 1, 1, 0), Check.NONE);
        Check.due("behind the code", x.typeAt(0, 0, place + 2, 1, 0), Check.NONE);
        Check.due("no instruction", x.typeAt(0, 0, 2, 1, 0), Check.NONE);
        Check.due("no place", x.typeAt(0, 0, -1, 1, 0), Check.NONE);
        Check.due("no place", x.typeAt(0, 0, 10000, 1, 0), Check.NONE);
        Check.due("what", x.typeAt(0, 0, 0, 2, 0), Check.NONE);
        Check.due("what", x.typeAt(0, 0, 0, -1, 0), Check.NONE);
        Check.due("no function", x.typeAt(0, 6, 0, 1, 0), Check.NONE);
        Check.due("no function", x.typeAt(0, -1, 0, 1, 0), Check.NONE);
        Check.due("no module", x.typeAt(1, 0, 0, 1, 0), Check.NONE);
        Check.due("another function", x.typeAt(0, 2, 0, 1, 1), 1);
        x.discard(0);
        Check.due("discarded", x.typeAt(0, 0, 0, 1, 0), Check.NONE);
    }

    private static void typesOfLoops() {
        // What comes from behind changes what came first.
        SealedProcesses x = loaded("0 : none 4",
            "NIL, STORE 1, NIL, STORE 2, PUSH 1, STORE 3, b: NEW 1, STORE 1, NIL, STORE 3, JUMP b");
        Check.due("NIL and a node", x.typeAt(0, 0, 13, 1, 1), 1);
        Check.due("NIL alone", x.typeAt(0, 0, 13, 1, 2), 6);
        Check.due("INT and NIL", x.typeAt(0, 0, 13, 1, 3), 7);
        Check.due("behind it", x.typeAt(0, 0, 20, 1, 3), 6);
        x = loaded("1.1 : none 1", "NIL, b: POP, LOAD 0, JUMP b");
        Check.due("NIL and a node on the stack", x.typeAt(0, 0, 1, 0, 0), 1);
    }
}
