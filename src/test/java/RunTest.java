/** Promises 9 to 12 and 15: run, about, process, value, output; turns, calls, calculating, traps. */
public final class RunTest {
    public static void main(String[] args) {
        runsBounds();
        calculating();
        stackAndLocals();
        branches();
        turns();
        stillness();
        calls();
        spawning();
        ends();
        trapsOfHeap();
        trapsOfCounts();
        outputs();
        values();
        Check.end();
    }

    /** One process with a heap of 16 cells that does function 0. */
    private static SealedProcesses alone(String functions) {
        SealedProcesses x = Check.withModule(functions);
        Check.due("boot", Check.boot(x, Asm.process(0, 0, 1)), 1);
        return x;
    }

    private static SealedProcesses code(String code) {
        return alone("record 0 1.0\nrecord 0 0\nfunction : none 4\n" + code.replace(", ", "\n"));
    }

    private static void runsBounds() {
        SealedProcesses x = code("b: YIELD, JUMP b");
        Check.due("run(-1)", x.run(-1), Check.NONE);
        Check.due("run(10001)", x.run(10001), Check.NONE);
        Check.due("no step", x.about(0), 0);
        Check.due("run(0)", x.run(0), 0);
        Check.due("run(10000)", x.run(10000), 10000);
        Check.due("steps", x.about(0), 10000);
        Check.due("steps of the process", x.process(0, 9), 10000);
        Check.due("about(7)", x.about(7), Check.NONE);
        Check.due("about(-1)", x.about(-1), Check.NONE);
        Check.due("process(0, 10)", x.process(0, 10), Check.NONE);
        Check.due("process(0, -1)", x.process(0, -1), Check.NONE);
    }

    private static void calculate(String op, int a, int b, int want) {
        SealedProcesses x = code("PUSH " + a + ", PUSH " + b + ", " + op + ", OUT, EXIT");
        Check.due("steps", x.run(100), 5);
        Check.due(a + " " + op + " " + b, x.output(0, 1), want);
    }

    private static void calculating() {
        int least = Integer.MIN_VALUE;
        int most = Integer.MAX_VALUE;
        calculate("ADD", 5, 7, 12);
        calculate("ADD", most, 1, least);
        calculate("SUB", 5, 7, -2);
        calculate("SUB", least, 1, most);
        calculate("MUL", -3, 7, -21);
        calculate("MUL", 65536, 65536, 0);
        calculate("DIV", 7, 2, 3);
        calculate("DIV", -7, 2, -3);
        calculate("DIV", 7, -2, -3);
        calculate("DIV", least, -1, least);
        calculate("REM", 7, 3, 1);
        calculate("REM", -7, 3, -1);
        calculate("REM", 7, -3, 1);
        calculate("REM", least, -1, 0);
        calculate("AND", 12, 10, 8);
        calculate("OR", 12, 10, 14);
        calculate("XOR", 12, 10, 6);
        calculate("SHL", 3, 4, 48);
        calculate("SHL", 1, 31, least);
        calculate("SHL", 1, 33, 2);
        calculate("SHL", 1, -1, least);
        calculate("SHR", -8, 1, -4);
        calculate("SHR", -8, 33, -4);
        calculate("SHR", 8, 3, 1);
        calculate("LESS", 1, 2, 1);
        calculate("LESS", 2, 2, 0);
        calculate("LESS", least, most, 1);
        calculate("LESS", most, least, 0);
        calculate("SAME", 4, 4, 1);
        calculate("SAME", 4, 5, 0);
        trap("PUSH 1, PUSH 0, DIV, OUT, EXIT", 3, 3);
        trap("PUSH 1, PUSH 0, REM, OUT, EXIT", 3, 3);
    }

    private static void dueOuts(String code, int... outs) {
        SealedProcesses x = code(code);
        x.run(1000);
        Check.due("OUTs of " + code, x.about(6), outs.length);
        for (int i = 0; i < outs.length; i++) {
            Check.due("OUT " + i + " of " + code, x.output(i, 1), outs[i]);
            Check.due("its process", x.output(i, 0), 0);
        }
        Check.due("it ended", x.process(0, 0), 4);
    }

    private static void stackAndLocals() {
        dueOuts("PUSH 1, PUSH 2, SWAP, OUT, OUT, RETURN", 1, 2);
        dueOuts("PUSH 1, DUP, PUSH 2, ADD, OUT, OUT, RETURN", 3, 1);
        dueOuts("PUSH 1, PUSH 2, POP, OUT, RETURN", 1);
        dueOuts("PUSH 8, STORE 2, PUSH 9, STORE 3, LOAD 2, LOAD 3, SUB, OUT, LOAD 2, OUT, RETURN", -1, 8);
        dueOuts("PUSH -2147483648, OUT, PUSH 2147483647, OUT, PUSH 16909060, OUT, EXIT", Integer.MIN_VALUE,
            Integer.MAX_VALUE, 16909060);
    }

    private static void branches() {
        dueOuts("PUSH 0, ZERO e, PUSH 1, OUT, e: PUSH 2, OUT, EXIT", 2);
        dueOuts("PUSH -1, ZERO e, PUSH 1, OUT, e: PUSH 2, OUT, EXIT", 1, 2);
        dueOuts("JUMP e, PUSH 1, OUT, e: PUSH 2, OUT, EXIT", 2);
        dueOuts("NIL, NONE, OUT, NEW 0, NONE, OUT, PUSH 0, ROW, NONE, OUT, EXIT", 1, 0, 0);
        dueOuts("PUSH 3, b: DUP, OUT, PUSH 1, SUB, DUP, ZERO e, JUMP b, e: POP, RETURN", 3, 2, 1);
    }

    private static void turns() {
        // Each does eight steps a turn, or less when it yields.
        String busy = "function 0 : none 1\n b: LOAD 0\n OUT\n JUMP b\n";
        String lazy = "function 0 : none 1\n b: LOAD 0\n OUT\n YIELD\n JUMP b\n";
        SealedProcesses x = Check.withModule(busy + lazy);
        Check.boot(x, Asm.process(0, 0, 1, 0, 0, 0, 7), Asm.process(0, 1, 1, 0, 0, 0, 8),
            Asm.process(0, 0, 1, 0, 0, 0, 9));
        // Steps in all, then of each process.
        int[][] want = {{7, 7, 0, 0}, {8, 8, 0, 0}, {9, 8, 1, 0}, {11, 8, 3, 0}, {12, 8, 3, 1}, {19, 8, 3, 8},
            {20, 9, 3, 8}, {27, 16, 3, 8}, {28, 16, 4, 8}, {31, 16, 7, 8}, {32, 16, 7, 9}};
        for (int[] row : want) {
            int more = row[0] - x.about(0);
            Check.due("run to " + row[0], x.run(more), more);
            for (int p = 0; p < 3; p++) {
                Check.due("steps of " + p + " at " + row[0], x.process(p, 9), row[1 + p]);
            }
        }
        Check.due("the first OUTs", x.output(2, 1), 7);
        Check.due("then the second's", x.output(3, 1), 8);
        Check.due("then the third's", x.output(4, 1), 9);
        Check.due("whose", x.output(4, 0), 2);
        Check.due("one that is over ends its turn", turnsWithEnd(), 1);
    }

    private static int turnsWithEnd() {
        SealedProcesses x = Check.withModule("function : none 0\n EXIT\nfunction : none 0\n b: JUMP b");
        Check.boot(x, Asm.process(0, 0, 1), Asm.process(0, 1, 1));
        x.run(2);
        return x.process(1, 9);
    }

    private static void stillness() {
        String waits = """
            contract
              state client 0>0
            function 5.0.0.0 : none 1
              LOAD 0
              b: PUSH 4
              SEND 0
              JUMP b
            function 5.0.0.1 : none 1
              LOAD 0
              RECEIVE b
              b: OUT
              YIELD
              EXIT
            function 5.0.0.1 : none 1
              b: YIELD
              JUMP b
            """;
        SealedProcesses x = Check.withModule(waits);
        Check.boot(x, Asm.process(0, 1, 1, 3), Asm.process(0, 0, 1, 3));
        Check.due("nobody has been looked at", x.process(0, 0), 1);
        x.run(1);
        Check.due("it would wait, but was not looked at", x.process(0, 0), 1);
        Check.due("the other goes on", x.about(1), 0);
        x.run(1);
        Check.due("now it waits", x.process(0, 0), 2);
        Check.due("next instruction is the same", x.process(0, 4), 2);
        Check.due("no step", x.process(0, 9), 1);
        x.run(2);
        Check.due("a message waits", x.channel(0, 1, 2), 1);
        Check.due("as it was found", x.process(0, 0), 2);
        x.run(5);
        Check.due("the turn was the other's", x.process(0, 0), 2);
        x.run(1);
        Check.due("it goes on", x.process(0, 0), 1);
        // It puts out and yields; the other fills what may wait; then it exits.
        x.run(2 + 8 + 1);
        Check.due("over", x.process(0, 0), 4);
        Check.due("OUT", x.output(0, 1), 4);
        Check.due("its end is closed", x.channel(0, 1, 0), Check.NONE);
        Check.due("run on", x.run(1000), 1000);
        Check.due("never waits: what it sends goes at once", x.process(1, 0), 1);

        Check.boot(x, Asm.process(0, 0, 1, 3), Asm.process(0, 2, 1, 3));
        Check.due("run", x.run(100), 100);
        Check.due("four wait", x.channel(0, 1, 2), 4);
        Check.due("waits to send", x.process(0, 0), 3);
        Check.due("at its SEND", x.process(0, 4), 7);
        Check.due("with load and end", x.process(0, 6), 2);
        Check.due("steps", x.process(0, 9), 14);
        Check.due("another goes on", x.about(1), 0);
    }

    private static void calls() {
        String functions = """
            function : none 1
              PUSH 100
              PUSH 1
              PUSH 2
              CALL 1
              OUT
              OUT
              RETURN
            function 0 0 : 0 3
              LOAD 0
              LOAD 1
              SUB
              STORE 2
              LOAD 2
              CALL 2
              LOAD 2
              RETURN
            function 0 : none 1
              LOAD 0
              OUT
              RETURN
            """;
        SealedProcesses x = alone(functions);
        x.run(4);
        Check.due("function", x.process(0, 3), 1);
        Check.due("place", x.process(0, 4), 0);
        Check.due("activations", x.process(0, 5), 2);
        Check.due("items", x.process(0, 6), 0);
        Check.due("first parameter", x.value(0, 1, 0), 1);
        Check.due("second parameter", x.value(0, 1, 1), 2);
        Check.due("EMPTY", x.value(0, 1, 2), 0);
        Check.due("no local", x.value(0, 1, 3), Integer.MIN_VALUE);
        x.run(6);
        Check.due("activations", x.process(0, 5), 3);
        Check.due("function", x.process(0, 3), 2);
        x.run(3);
        Check.due("back", x.process(0, 5), 2);
        Check.due("behind the CALL", x.process(0, 4), 11);
        x.run(2);
        Check.due("back in the first", x.process(0, 5), 1);
        Check.due("with the result", x.process(0, 6), 2);
        Check.due("with the result", x.value(0, 0, 1), -1);
        Check.due("below it", x.value(0, 0, 0), 100);
        Check.due("to the end", x.run(100), 3);
        Check.due("over", x.process(0, 0), 4);
        Check.due("no trap", x.process(0, 1), 0);
        for (int what = 3; what <= 7; what++) {
            Check.due("over: " + what, x.process(0, what), 0);
        }
        Check.due("heap", x.process(0, 8), 16);
        Check.due("steps", x.process(0, 9), 18);
        Check.due("no value", x.value(0, 1, 0), Integer.MIN_VALUE);
        int[] outs = {-1, -1, 100};
        for (int i = 0; i < 3; i++) {
            Check.due("OUT", x.output(i, 1), outs[i]);
        }
    }

    private static void spawning() {
        String functions = """
            record 0
            function : none 0
              PUSH 5
              SPAWN 1
              PUSH 6
              SPAWN 1
              b: YIELD
              JUMP b
            function 0 : none 2
              LOAD 0
              OUT
              YIELD
              EXIT
            """;
        SealedProcesses x = Check.withModule(functions);
        Check.boot(x, Asm.process(0, 1, 1, 0, 0, 0, 1), Asm.process(0, 0, 3), Asm.process(0, 1, 1, 0, 0, 0, 2));
        x.run(3);
        x.run(4);
        Check.due("children", x.about(2), 5);
        Check.due("its number", x.process(3, 0), 1);
        Check.due("its heap is its parent's", x.process(3, 8), 48);
        Check.due("its module", x.process(3, 2), 0);
        Check.due("its function", x.process(3, 3), 1);
        Check.due("its parameter", x.value(4, 1, 0), 6);
        Check.due("no steps yet", x.process(3, 9), 0);
        // In the same round behind its parent: 1 yields, 2 does three, then 3 and 4.
        x.run(1 + 3 + 3);
        Check.due("it ran", x.process(3, 9), 3);
        Check.due("its OUT", x.output(2, 1), 5);
        Check.due("its OUT", x.output(2, 0), 3);
        x.run(3 + 1);
        Check.due("the first is over", x.process(0, 0), 4);

        // The lowest number that is over is used again, and runs when that number comes.
        String again = """
            function : none 0
              EXIT
            function : none 0
              PUSH 9
              SPAWN 2
              b: YIELD
              JUMP b
            function 0 : none 1
              b: YIELD
              JUMP b
            """;
        x = Check.withModule(again);
        Check.boot(x, Asm.process(0, 0, 1), Asm.process(0, 1, 2), Asm.process(0, 0, 1));
        x.run(1);
        Check.due("over", x.process(0, 0), 4);
        Check.due("its steps", x.process(0, 9), 1);
        x.run(2);
        Check.due("again", x.process(0, 0), 1);
        Check.due("steps anew", x.process(0, 9), 0);
        Check.due("heap anew", x.process(0, 8), 32);
        Check.due("no third", x.process(3, 0), Check.NONE);
        x.run(2);
        Check.due("not before its number comes", x.process(0, 9), 0);
        x.run(1);
        Check.due("then", x.process(0, 9), 1);

        // Twelve at once.
        String many = "function : none 0\n b: SPAWN 1\n JUMP b\nfunction : none 0\n b: YIELD\n JUMP b";
        x = alone(many);
        x.run(1000);
        Check.due("too many", x.process(0, 1), 8);
        Check.due("eleven stay", x.about(2), 11);
        Check.due("the last", x.process(11, 0), 1);
        Check.due("no number 12", x.process(12, 0), Check.NONE);
    }

    private static void ends() {
        SealedProcesses x = code("PUSH 1, EXIT");
        Check.due("two steps", x.run(5), 2);
        Check.due("over by EXIT", x.process(0, 0), 4);
        Check.due("still", x.about(1), 1);
        Check.due("none", x.about(2), 0);
        Check.due("nothing more", x.run(5), 0);
        x = alone("function : none 0\n CALL 1\n EXIT\nfunction : none 0\n EXIT");
        Check.due("EXIT of a called one", x.run(9), 2);
        Check.due("over", x.process(0, 0), 4);
    }

    private static void trap(String code, int number, int steps) {
        SealedProcesses x = code(code);
        Check.due("steps of " + code, x.run(10000), steps);
        Check.due("status of " + code, x.process(0, 0), 5);
        Check.due("trap of " + code, x.process(0, 1), number);
        Check.due("steps of the process", x.process(0, 9), steps);
        for (int what = 3; what <= 7; what++) {
            Check.due("over: " + what, x.process(0, what), 0);
        }
        Check.due("no value", x.value(0, 0, 0), Integer.MIN_VALUE);
    }

    private static void trapsOfHeap() {
        trap("NIL, GET 0, OUT, EXIT", 1, 2);
        trap("NEW 0, GET 1, GET 0, OUT, EXIT", 1, 3);
        trap("NIL, PUSH 1, PUT 0, EXIT", 1, 3);
        trap("NIL, LENGTH, OUT, EXIT", 1, 2);
        trap("NIL, PUSH -1, TAKE, OUT, EXIT", 1, 3);
        trap("NIL, PUSH -1, PUSH 1, LAY, EXIT", 1, 4);
        trap("PUSH 1, ROW, PUSH 1, TAKE, OUT, EXIT", 2, 4);
        trap("PUSH 1, ROW, PUSH -1, TAKE, OUT, EXIT", 2, 4);
        trap("PUSH 0, ROW, PUSH 0, TAKE, OUT, EXIT", 2, 4);
        trap("PUSH 2, ROWS 0, PUSH 2, NIL, LAY, EXIT", 2, 5);
        trap("PUSH 2, ROW, PUSH -2147483648, PUSH 1, LAY, EXIT", 2, 5);
        trap("PUSH -1, ROW, POP, EXIT", 4, 2);
        trap("PUSH -2147483648, ROWS 0, POP, EXIT", 4, 2);
        trap("PUSH 16, ROW, POP, EXIT", 5, 2);
        trap("PUSH 2147483647, ROW, POP, EXIT", 5, 2);
        trap("PUSH 4095, ROWS 0, POP, EXIT", 5, 2);
        dueOuts("PUSH 15, ROW, LENGTH, OUT, PUSH 0, ROWS 1, LENGTH, OUT, EXIT", 15, 0);
        dueOuts("PUSH 3, ROW, STORE 0, LOAD 0, PUSH 2, PUSH 7, LAY, LOAD 0, PUSH 2, TAKE, OUT, "
            + "LOAD 0, PUSH 0, TAKE, OUT, EXIT", 7, 0);
    }

    private static void trapsOfCounts() {
        trap("BLOCK 1, b: STORE 0, NEW 0, STORE 1, NEW 0, STORE 2, PUSH 13, ROW, EXIT", 5, 8);
        SealedProcesses x = alone("function : none 0\n CALL 0\n RETURN");
        Check.due("sixteen calls", x.run(100), 16);
        Check.due("an activation too many", x.process(0, 1), 9);
        x = alone("function : none 0\n CALL 1\n RETURN\nfunction : none 0\n CALL 1\n RETURN");
        x.run(15);
        Check.due("sixteen activations", x.process(0, 5), 16);
        Check.due("goes on", x.process(0, 0), 1);
        x = alone("contract\n state client none>0\nfunction : none 2\n b: CHANNEL 0\n CALL 0\n EXIT");
        Check.due("steps", x.run(1000), 2 * 12 + 1);
        Check.due("a channel too many", x.process(0, 1), 7);
        Check.due("all are closed", x.about(3), 0);
        x = alone("record 0 0 0 0 0\nfunction : none 2\n" + " BLOCK 0\n".repeat(10) + " CALL 0\n EXIT");
        x.run(46);
        Check.due("42 blocks of six cells", x.about(5), 252);
        Check.due("42 blocks", x.about(4), 42);
        x.run(1);
        Check.due("no room", x.process(0, 1), 6);
        Check.due("42 and the trap", x.process(0, 9), 47);
        Check.due("all gone", x.about(4), 0);
        Check.due("all gone", x.about(5), 0);
        x = alone("record 0\nfunction : none 2\n" + " BLOCK 0\n".repeat(8) + " CALL 0\n EXIT");
        x.run(15 * 9 + 8);
        Check.due("all cells", x.about(5), 256);
        Check.due("all blocks", x.about(4), 128);
        Check.due("the last", x.block(127, 0), 1);
        Check.due("goes on", x.process(0, 0), 1);
        x = alone("record 0\nfunction : none 2\n" + " BLOCK 0\n".repeat(9) + " CALL 0\n EXIT");
        x.run(10000);
        Check.due("one too many", x.process(0, 1), 6);
        Check.due("its steps", x.process(0, 9), 128 + 14 + 1);
    }

    private static void outputs() {
        SealedProcesses x = alone("function : none 1\n PUSH -3\n STORE 0\n b: LOAD 0\n OUT\n LOAD 0\n PUSH 1\n ADD\n"
            + " STORE 0\n JUMP b");
        x.run(6);
        Check.due("one", x.about(6), 1);
        Check.due("OUT", x.output(0, 1), -3);
        Check.due("no second", x.output(1, 1), Check.NONE);
        Check.due("none", x.output(-1, 0), Check.NONE);
        Check.due("what", x.output(0, 2), Check.NONE);
        Check.due("what", x.output(0, -1), Check.NONE);
        x.run(10000);
        Check.due("500", x.about(6), 500);
        Check.due("an INT that is NONE", x.output(2, 1), -1);
        Check.due("its process", x.output(2, 0), 0);
        Check.due("the last", x.output(499, 1), 496);
        Check.due("no more", x.output(500, 1), Check.NONE);
        Check.due("no more", x.output(500, 0), Check.NONE);
        Check.due("an OUT too many", x.process(0, 1), 10);
        Check.due("steps", x.process(0, 9), 2 + 7 * 500 + 2);
    }

    private static void values() {
        SealedProcesses x = alone("""
            record 0
            contract
              state client none>0
            function : none 6
              PUSH -7
              STORE 0
              NIL
              STORE 1
              NEW 0
              STORE 2
              BLOCK 0
              FREE
              BLOCK 0
              BLOCK 0
              STORE 3
              CHANNEL 0
              STORE 4
              NIL
              NEW 0
              LOAD 4
              EXIT
            """);
        x.run(15);
        int[] locals = {-7, 0, 1, 1, 1, 0};
        for (int i = 0; i < 6; i++) {
            Check.due("local " + i, x.value(0, 1, i), locals[i]);
        }
        int[] stack = {0, 0, 0, 1};
        for (int i = 0; i < 4; i++) {
            Check.due("stack " + i, x.value(0, 0, i), stack[i]);
        }
        for (int i : new int[] {-1, 4, 15, 16, 1000}) {
            Check.due("no stack " + i, x.value(0, 0, i), Integer.MIN_VALUE);
        }
        for (int i : new int[] {-1, 6, 10, 26, 1000}) {
            Check.due("no local " + i, x.value(0, 1, i), Integer.MIN_VALUE);
        }
        Check.due("what", x.value(0, 2, 0), Integer.MIN_VALUE);
        Check.due("what", x.value(0, -1, 0), Integer.MIN_VALUE);
        Check.due("no process", x.value(1, 1, 0), Integer.MIN_VALUE);
        Check.due("no process", x.value(-1, 1, 0), Integer.MIN_VALUE);
        Check.due("no process", x.value(12, 1, 0), Integer.MIN_VALUE);
        x.run(1);
        Check.due("EMPTY behind LOAD", x.value(0, 1, 4), 0);
        Check.due("the end", x.value(0, 0, 4), 1);
        // What was stored counts, whatever joining made of its type.
        x = alone("function : none 1\n PUSH 5\n STORE 0\n PUSH 1\n ZERO e\n PUSH 6\n STORE 0\n NIL\n STORE 0\n"
            + " PUSH 9\n STORE 0\n e: YIELD\n EXIT");
        x.run(10);
        Check.due("stored", x.value(0, 1, 0), 9);
    }
}
