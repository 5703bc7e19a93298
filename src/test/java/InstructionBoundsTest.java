/** The bounds of what each instruction does, a test for each of the document's sentences. */
public final class InstructionBoundsTest {
    private static final int[] PLAIN = {0, 0, 1};
    private static final int LEAST = Integer.MIN_VALUE;
    private static final int MOST = Integer.MAX_VALUE;

    public static void main(String[] args) throws Exception {
        Bounds.open(args);
        wraps();
        divisions();
        shifts();
        comparisons();
        constants();
        oneBehindTheOther();
        jumps();
        locals();
        swaps();
        nilOrNot();
        newNodes();
        newRows();
        fieldsOfNodes();
        itemsOfRows();
        emptyRows();
        fieldsOfBlocks();
        calls();
        results();
        spawns();
        newChannels();
        messages();
        Check.end();
    }

    private static void calculate(String op, int a, int b, int want) {
        SealedProcesses x = Bounds.alone("", "PUSH " + a + ", PUSH " + b + ", " + op + ", EXIT");
        Bounds.run(x, 3);
        Bounds.due(a + " " + op + " " + b, x.value(0, 0, 0), want);
    }

    private static void wraps() {
        Bounds.says("two INTs become one (32 bits; LESS, SAME: 1 or 0).");
        calculate("ADD", MOST - 1, 1, MOST);
        calculate("ADD", MOST, 1, LEAST);
        calculate("ADD", LEAST, -1, MOST);
        calculate("ADD", LEAST, LEAST, 0);
        calculate("SUB", LEAST + 1, 1, LEAST);
        calculate("SUB", LEAST, 1, MOST);
        calculate("SUB", MOST, -1, LEAST);
        calculate("SUB", 0, LEAST, LEAST);
        calculate("MUL", 46340, 46340, 2147395600);
        calculate("MUL", 46341, 46341, -2147479015);
        calculate("MUL", 65536, 32768, LEAST);
        calculate("MUL", 65536, 65536, 0);
        calculate("MUL", LEAST, -1, LEAST);
        calculate("AND", LEAST, -1, LEAST);
        calculate("OR", LEAST, MOST, -1);
        calculate("XOR", -1, MOST, LEAST);
    }

    private static void divisions() {
        Bounds.says("10 DIV (cut towards 0), 11 REM (the rest that belongs to DIV)");
        int[][] rows = {{7, 2, 3, 1}, {-7, 2, -3, -1}, {7, -2, -3, 1}, {-7, -2, 3, -1}, {1, 2, 0, 1}, {-1, 2, 0, -1},
            {0, 5, 0, 0}, {LEAST, -1, LEAST, 0}, {LEAST, 1, LEAST, 0}, {LEAST, LEAST, 1, 0}, {MOST, LEAST, 0, MOST},
            {LEAST, MOST, -1, -1}, {LEAST, 2, -1073741824, 0}, {6, 2, 3, 0}, {-6, 2, -3, 0}};
        for (int[] row : rows) {
            calculate("DIV", row[0], row[1], row[2]);
            calculate("REM", row[0], row[1], row[3]);
        }
    }

    private static void shifts() {
        Bounds.says("15 SHL, 16 SHR (with the sign; both by the lowest five bits)");
        calculate("SHL", 1, 0, 1);
        calculate("SHL", 1, 31, LEAST);
        calculate("SHL", 1, 32, 1);
        calculate("SHL", 1, 33, 2);
        calculate("SHL", 1, -1, LEAST);
        calculate("SHL", 3, 63, LEAST);
        calculate("SHL", 1, LEAST, 1);
        calculate("SHR", LEAST, 31, -1);
        calculate("SHR", LEAST, 32, LEAST);
        calculate("SHR", LEAST, 33, -1073741824);
        calculate("SHR", MOST, 31, 0);
        calculate("SHR", MOST, 30, 1);
        calculate("SHR", LEAST, -1, -1);
        calculate("SHR", -1, 1, -1);
    }

    private static void comparisons() {
        Bounds.says("17 LESS, 18 SAME:");
        calculate("LESS", 1, 2, 1);
        calculate("LESS", 2, 2, 0);
        calculate("LESS", 3, 2, 0);
        calculate("LESS", -1, 0, 1);
        calculate("LESS", LEAST, MOST, 1);
        calculate("LESS", MOST, LEAST, 0);
        calculate("SAME", 2, 2, 1);
        calculate("SAME", 2, 3, 0);
        calculate("SAME", LEAST, LEAST, 1);
        calculate("SAME", 0, LEAST, 0);
        Bounds.says("21 ZERO T: an INT goes; to T if it is 0.");
        for (int number : new int[] {-1, 0, 1, LEAST, 256, 65536}) {
            SealedProcesses x = Bounds.alone("", "PUSH " + number + ", ZERO e, YIELD, e: EXIT");
            Bounds.run(x, 2);
            Bounds.due("the place behind ZERO of " + number, x.process(0, 4), number == 0 ? 8 : 7);
            Bounds.due("it went", x.process(0, 6), 0);
        }
    }

    private static void constants() {
        Bounds.says("In them numbers are one byte (0 to 255), K are four, the highest first, with a sign.");
        for (int number : new int[] {0, 1, -1, 127, 128, 255, 256, 16909060, -16909060, LEAST, MOST}) {
            SealedProcesses x = Bounds.alone("", "PUSH " + number + ", EXIT");
            Bounds.run(x, 1);
            Bounds.due("K", x.value(0, 0, 0), number);
        }
        SealedProcesses x = new SealedProcesses();
        Check.load(x, new int[] {83, 77, 0, 0, 1, 0, 255, 0, 6, 0, 128, 1, 2, 255, 42});
        Check.boot(x, PLAIN);
        x.run(1);
        Bounds.due("the highest first", x.value(0, 0, 0), (128 << 24) + (1 << 16) + (2 << 8) + 255);
    }

    private static void dueOuts(SealedProcesses x, int... want) {
        x.run(10000);
        Bounds.due("over", x.process(0, 0), 4);
        Bounds.due("OUTs", x.about(6), want.length);
        for (int i = 0; i < want.length; i++) {
            Bounds.due("OUT " + i, x.output(i, 1), want[i]);
        }
    }

    private static void oneBehindTheOther() {
        Bounds.says("CODE is instructions one behind the other, from byte 0 on to its end.");
        String[] code = {"PUSH 1", "STORE 0", "LOAD 0", "DUP", "SWAP", "ADD", "OUT", "NIL", "NONE", "ZERO e",
            "e: YIELD", "NEW 0", "GET 0", "POP", "NEW 0", "PUSH 1", "PUT 0", "PUSH 1", "ROW", "LENGTH", "POP",
            "PUSH 1", "ROWS 0", "PUSH 0", "TAKE", "POP", "PUSH 1", "ROW", "PUSH 0", "PUSH 1", "LAY", "BLOCK 0",
            "SEE 0", "SET 0", "FREE", "CHANNEL 0", "STORE 1", "SEND 0", "CLOSE", "LOAD 1", "SPAWN 1", "EXIT"};
        int[] lengths = {5, 2, 2, 1, 1, 1, 1, 1, 1, 2,
            1, 2, 2, 1, 2, 5, 2, 5, 1, 1, 1,
            5, 2, 5, 1, 1, 5, 1, 5, 5, 1, 2,
            2, 2, 1, 2, 2, 2, 1, 2, 2};
        String text = "record 0\ncontract\n state client none>1\n state nobody\nfunction : none 4\n"
            + String.join("\n", code) + "\nfunction 5.0.0.1 : none 1\n b: YIELD\n JUMP b\n";
        SealedProcesses x = Bounds.booted(text, Asm.process(0, 0, 4));
        int place = 0;
        for (int i = 0; i < lengths.length; i++) {
            Bounds.due("the place of " + code[i], x.process(0, 4), place);
            Bounds.run(x, 1);
            place += lengths[i];
        }
        Bounds.due("the place of EXIT", x.process(0, 4), place);
        Bounds.due("bytes of code", x.module(0, 0, 12), place + 1);
    }

    private static void jumps() {
        Bounds.says("20 JUMP T.");
        SealedProcesses x = Bounds.booted("function : none 0\n YIELD\n JUMP 239\n" + "YIELD\n".repeat(236) + "EXIT\n",
            PLAIN);
        Bounds.run(x, 2);
        Bounds.due("the last of 240 bytes", x.process(0, 4), 239);
        x = Bounds.booted("function : none 0\n" + "YIELD\n".repeat(238) + "JUMP 0\n", PLAIN);
        Bounds.run(x, 239);
        Bounds.due("the first", x.process(0, 4), 0);
        Bounds.run(x, 238);
        Bounds.due("the last", x.process(0, 4), 238);
    }

    private static void locals() {
        Bounds.says("3 STORE l: one comes to local l");
        StringBuilder code = new StringBuilder("function : none 10\n");
        for (int l = 0; l < 10; l++) {
            code.append(" PUSH ").append(100 + l).append("\n STORE ").append(l).append("\n");
        }
        for (int l = 0; l < 10; l++) {
            code.append(" LOAD ").append(l).append("\n OUT\n");
        }
        SealedProcesses x = Bounds.booted(code + " EXIT\n", PLAIN);
        Bounds.run(x, 20);
        for (int l = 0; l < 10; l++) {
            Bounds.due("local " + l, x.value(0, 1, l), 100 + l);
        }
        dueOuts(x, 100, 101, 102, 103, 104, 105, 106, 107, 108, 109);
        // All sixteen of the stack, added up from the highest.
        StringBuilder sum = new StringBuilder("function : none 0\n");
        for (int i = 0; i < 16; i++) {
            sum.append(" PUSH ").append(1 << i).append("\n");
        }
        x = Bounds.booted(sum + " ADD\n".repeat(15) + " OUT\n EXIT\n", PLAIN);
        Bounds.run(x, 16);
        for (int i = 0; i < 16; i++) {
            Bounds.due("stack place " + i, x.value(0, 0, i), 1 << i);
        }
        dueOuts(x, 65535);
    }

    private static void swaps() {
        Bounds.says("6 SWAP: the two highest.");
        SealedProcesses x = Bounds.alone("record 0\n", "PUSH 7, NEW 0, PUSH 5, SWAP, SWAP, SWAP, BLOCK 0, SWAP, EXIT");
        int[][] want = {{7}, {7, 1}, {7, 1, 5}, {7, 5, 1}, {7, 1, 5}, {7, 5, 1}, {7, 5, 1, 0}, {7, 5, 0, 1}};
        int[] reached = {0, 2, 2, 2, 2, 2, 2, 2};
        for (int step = 0; step < want.length; step++) {
            Bounds.run(x, 1);
            for (int i = 0; i < want[step].length; i++) {
                Bounds.due("stack place " + i + " behind step " + step, x.value(0, 0, i), want[step][i]);
            }
            Bounds.due("cells behind step " + step, x.process(0, 7), reached[step]);
        }
    }

    private static void nilOrNot() {
        Bounds.says("19 NONE: whether a node or row is NIL: 1 or 0.");
        dueOuts(Bounds.alone("record 0 1.0\n", "NIL, NONE, OUT, NEW 0, NONE, OUT, PUSH 0, ROW, NONE, OUT, PUSH 0, "
            + "ROWS 0, NONE, OUT, NEW 0, GET 1, NONE, OUT, PUSH 1, ROWS 0, PUSH 0, TAKE, NONE, OUT, PUSH 1, ROW, "
            + "NONE, OUT, EXIT"),
            1, 0, 0, 0, 1, 1, 0);
    }

    private static void newNodes() {
        Bounds.says("22 NEW r: a node, its INTs 0, all else NIL.");
        // The cells have been used ahead of it, by a row full of numbers that is gone.
        dueOuts(Bounds.alone("record 0 1.0 2 3.0 0 0\n", "PUSH 15, ROW, STORE 0, PUSH 0, STORE 1, b: LOAD 0, LOAD 1, "
            + "PUSH 9, LAY, LOAD 1, PUSH 1, ADD, STORE 1, LOAD 1, PUSH 15, LESS, ZERO e, JUMP b, e: NIL, STORE 0, "
            + "NEW 0, STORE 2, LOAD 2, GET 0, OUT, LOAD 2, GET 1, NONE, OUT, LOAD 2, GET 2, NONE, OUT, LOAD 2, "
            + "GET 3, NONE, OUT, LOAD 2, GET 4, OUT, LOAD 2, GET 5, OUT, EXIT"), 0, 1, 1, 1, 0, 0);
    }

    private static void newRows() {
        Bounds.says("25 ROW: an INT n becomes a row of n INTs, all 0.");
        String fill = "PUSH 15, ROW, STORE 0, PUSH 0, STORE 1, b: LOAD 0, LOAD 1, PUSH 9, LAY, LOAD 1, PUSH 1, ADD, "
            + "STORE 1, LOAD 1, PUSH 15, LESS, ZERO e, JUMP b, e: NIL, STORE 0, ";
        dueOuts(Bounds.alone("", fill + "PUSH 15, ROW, STORE 2, LOAD 2, PUSH 0, TAKE, OUT, LOAD 2, PUSH 14, TAKE, "
            + "OUT, LOAD 2, LENGTH, OUT, EXIT"), 0, 0, 15);
        Bounds.says("26 ROWS r: likewise of nodes, all NIL.");
        dueOuts(Bounds.alone("record 0\n", fill + "PUSH 15, ROWS 0, STORE 2, LOAD 2, PUSH 0, TAKE, NONE, OUT, "
            + "LOAD 2, PUSH 14, TAKE, NONE, OUT, LOAD 2, LENGTH, OUT, EXIT"), 1, 1, 15);
        Bounds.says("27 LENGTH: a row becomes an INT.");
        for (int length : new int[] {0, 1, 15, 1023}) {
            String text = "record 0\nfunction : none 0\n PUSH " + length + "\n @\n LENGTH\n OUT\n EXIT\n";
            dueOuts(Bounds.booted(text.replace("@", "ROW"), Asm.process(0, 0, 64)), length);
            dueOuts(Bounds.booted(text.replace("@", "ROWS 0"), Asm.process(0, 0, 64)), length);
        }
    }

    private static void fieldsOfNodes() {
        Bounds.says("23 GET f: a node becomes its field f.");
        StringBuilder code = new StringBuilder("NEW 0, STORE 0, ");
        for (int f = 0; f < 6; f++) {
            code.append("LOAD 0, PUSH ").append(20 + f).append(", PUT ").append(f).append(", ");
        }
        for (int f = 0; f < 6; f++) {
            code.append("LOAD 0, GET ").append(f).append(", OUT, ");
        }
        dueOuts(Bounds.alone("record 0 0 0 0 0 0\n", code + "EXIT"), 20, 21, 22, 23, 24, 25);
        // Of six fields all of which point, the first and the last; they move when the row below them goes.
        dueOuts(Bounds.alone("record 1.1 1.1 1.1 1.1 1.1 1.1\nrecord 0\n",
            "PUSH 2, ROW, STORE 2, NEW 0, STORE 0, NEW 1, DUP, PUSH 5, PUT 0, STORE 1, LOAD 0, LOAD 1, PUT 0, "
            + "LOAD 0, LOAD 1, PUT 5, NIL, STORE 1, NIL, STORE 2, PUSH 6, ROW, POP, PUSH 6, ROW, POP, "
            + "LOAD 0, GET 0, GET 0, OUT, LOAD 0, GET 5, GET 0, OUT, LOAD 0, GET 1, NONE, OUT, EXIT"), 5, 5, 1);
    }

    private static void itemsOfRows() {
        Bounds.says("28 TAKE: a row and an INT become that one of its items (0 the first).");
        Bounds.says("29 LAY: a row, an INT and a value: that item.");
        dueOuts(Bounds.alone("", "PUSH 15, ROW, STORE 0, LOAD 0, PUSH 0, PUSH 8, LAY, LOAD 0, PUSH 14, PUSH -8, LAY, "
            + "LOAD 0, PUSH 0, TAKE, OUT, LOAD 0, PUSH 1, TAKE, OUT, LOAD 0, PUSH 13, TAKE, OUT, LOAD 0, PUSH 14, "
            + "TAKE, OUT, EXIT"),
            8, 0, 0, -8);
        dueOuts(Bounds.alone("record 0\n", "PUSH 9, ROWS 0, STORE 0, LOAD 0, PUSH 0, NEW 0, LAY, LOAD 0, PUSH 8, "
            + "NEW 0, LAY, LOAD 0, PUSH 8, TAKE, PUSH 3, PUT 0, LOAD 0, PUSH 0, TAKE, GET 0, OUT, LOAD 0, PUSH 8, "
            + "TAKE, GET 0, OUT, LOAD 0, PUSH 1, TAKE, NONE, OUT, LOAD 0, PUSH 7, TAKE, NONE, OUT, EXIT"), 0, 3, 1, 1);
    }

    private static void emptyRows() {
        // A row of nodes that moves: its length, its first, its last, and one that is NIL.
        dueOuts(Bounds.alone("record 0\n", "PUSH 4, ROW, STORE 0, PUSH 3, ROWS 0, STORE 1, NIL, STORE 0, "
            + "LOAD 1, PUSH 0, NEW 0, LAY, LOAD 1, PUSH 2, NEW 0, LAY, LOAD 1, PUSH 2, TAKE, PUSH 7, PUT 0, "
            + "PUSH 7, ROW, POP, PUSH 7, ROW, POP, LOAD 1, LENGTH, OUT, LOAD 1, PUSH 0, TAKE, GET 0, OUT, "
            + "LOAD 1, PUSH 1, TAKE, NONE, OUT, LOAD 1, PUSH 2, TAKE, GET 0, OUT, EXIT"), 3, 0, 1, 7);
        // A row of no items is none of what is NIL, and it moves like all others.
        dueOuts(Bounds.alone("record 0\n", "PUSH 5, ROW, STORE 0, PUSH 0, ROW, STORE 1, PUSH 0, ROWS 0, STORE 2, "
            + "NIL, STORE 0, PUSH 13, ROW, POP, PUSH 13, ROW, POP, LOAD 1, NONE, OUT, LOAD 1, LENGTH, OUT, "
            + "LOAD 2, NONE, OUT, LOAD 2, LENGTH, OUT, EXIT"), 0, 0, 0, 0);
        // What is reached twice is one and the same, wherever it moves.
        dueOuts(Bounds.alone("record 0\n", "PUSH 5, ROW, STORE 0, NEW 0, DUP, STORE 1, STORE 2, NIL, STORE 0, "
            + "PUSH 13, ROW, POP, LOAD 1, PUSH 6, PUT 0, LOAD 2, GET 0, OUT, PUSH 13, ROW, POP, LOAD 2, PUSH 7, "
            + "PUT 0, LOAD 1, GET 0, OUT, EXIT"), 6, 7);
    }

    private static void fieldsOfBlocks() {
        Bounds.says("32 BLOCK r: a block, all 0.");
        Bounds.says("34 SET f: a block stays, an INT ahead of which it is goes to field f.");
        StringBuilder code = new StringBuilder("BLOCK 0, ");
        for (int f = 0; f < 6; f++) {
            code.append("SEE ").append(f).append(", OUT, PUSH ").append(30 + f).append(", SET ").append(f).append(", ");
        }
        for (int f = 0; f < 6; f++) {
            code.append("SEE ").append(f).append(", OUT, ");
        }
        code.append("FREE, BLOCK 0, SEE 0, OUT, SEE 5, OUT, EXIT");
        dueOuts(Bounds.alone("record 0 0 0 0 0 0\n", code.toString()), 0, 0, 0, 0, 0, 0, 30, 31, 32, 33, 34, 35, 0, 0);
        // The highest of three is seen and set, and it goes.
        SealedProcesses x = Bounds.alone("record 0 0\n", "BLOCK 0, PUSH 1, SET 0, BLOCK 0, PUSH 2, SET 0, BLOCK 0, "
            + "PUSH 3, SET 0, SEE 0, OUT, FREE, SEE 0, OUT, FREE, SEE 0, OUT, YIELD, EXIT");
        Bounds.run(x, 9);
        for (int b = 0; b < 3; b++) {
            Bounds.due("field of block " + b, x.block(b, 10), b + 1);
        }
        Bounds.run(x, 3);
        Bounds.due("the highest went", x.block(2, 0), -1);
        Bounds.due("the next is there", x.block(1, 0), 2);
        dueOuts(x, 3, 2, 1);
    }

    private static void calls() {
        Bounds.says("30 CALL f: the parameters become the result, if there is one.");
        String text = """
            function : none 0
              PUSH 50
              PUSH 1
              PUSH 2
              PUSH 3
              PUSH 4
              CALL 1
              OUT
              CALL 2
              OUT
              EXIT
            function 0 0 0 0 : 0 10
              LOAD 0
              OUT
              LOAD 1
              OUT
              LOAD 2
              OUT
              LOAD 3
              OUT
              PUSH 9
              RETURN
            function : none 0
              RETURN
            """;
        SealedProcesses x = Bounds.booted(text, PLAIN);
        Bounds.run(x, 6);
        for (int l = 0; l < 10; l++) {
            Bounds.due("local " + l + " of the called", x.value(0, 1, l), l < 4 ? l + 1 : 0);
        }
        Bounds.due("its stack is empty", x.process(0, 6), 0);
        dueOuts(x, 1, 2, 3, 4, 9, 50);
    }

    private static void results() {
        // Of each type; what lies above and below it was of another.
        String text = """
            record 0
            contract
              state client none>0
            function : none 1
              PUSH 4
              CALL 1
              CALL 2
              CALL 3
              CALL 4
              CALL 5
              YIELD
              EXIT
            function : 1.0 2
              PUSH 4
              PUSH 5
              POP
              STORE 0
              NEW 0
              RETURN
            function : 4.0 2
              NIL
              NIL
              POP
              STORE 0
              BLOCK 0
              RETURN
            function : 5.0.0.0 2
              CHANNEL 0
              PUSH 1
              POP
              SPAWN 6
              RETURN
            function : 0 2
              NEW 0
              NEW 0
              POP
              STORE 0
              PUSH -5
              RETURN
            function : 2 2
              BLOCK 0
              FREE
              NIL
              RETURN
            function 5.0.0.1 : none 1
              y: YIELD
              JUMP y
            """;
        SealedProcesses x = Bounds.booted(text, PLAIN);
        x.run(200);
        Bounds.due("over", x.process(0, 0), 4);
        x = Bounds.booted(text.replace("YIELD\n  EXIT", "b: YIELD\n  JUMP b"), PLAIN);
        x.run(60);
        int[] want = {4, 1, 0, 0, -5, 0};
        Bounds.due("items", x.process(0, 6), 6);
        for (int i = 0; i < 6; i++) {
            Bounds.due("stack place " + i, x.value(0, 0, i), want[i]);
        }
        Bounds.due("the node is reached, and it alone", x.process(0, 7), 2);
        Bounds.due("the block's owner", x.block(0, 1), 0);
        Bounds.due("the end's owner", x.channel(0, 0, 1), 0);
        Bounds.due("the other end's owner", x.channel(0, 1, 1), 1);
    }

    private static void spawns() {
        Bounds.says("40 SPAWN f: the parameters, none of types 1 to 3, go; f has no result.");
        SealedProcesses x = Bounds.booted("""
            record 0
            contract
              state client none>0
            function : none 2
              PUSH 50
              BLOCK 0
              FREE
              CHANNEL 0
              STORE 0
              BLOCK 0
              STORE 1
              BLOCK 0
              LOAD 0
              PUSH -9
              SPAWN 1
              SPAWN 2
              YIELD
              EXIT
            function 5.0.0.0 4.0 5.0.0.1 0 : none 6
              y: YIELD
              JUMP y
            function 0 : none 1
              y: YIELD
              JUMP y
            """, PLAIN);
        Bounds.run(x, 10);
        Bounds.due("items", x.process(0, 6), 5);
        Bounds.run(x, 1);
        Bounds.due("they go", x.process(0, 6), 1);
        int[] locals = {0, 1, 1, -9, 0, 0};
        for (int l = 0; l < 6; l++) {
            Bounds.due("local " + l + " of the child", x.value(1, 1, l), locals[l]);
        }
        Bounds.due("the child's stack", x.process(1, 6), 0);
        Bounds.due("owner of its block", x.block(1, 1), 1);
        Bounds.due("owner of the other block", x.block(0, 1), 0);
        Bounds.due("owner of its client's end", x.channel(0, 0, 1), 1);
        Bounds.due("owner of its server's end", x.channel(0, 1, 1), 1);
        Bounds.run(x, 1);
        Bounds.due("its only parameter", x.value(2, 1, 0), 50);
        Bounds.due("nothing is left", x.process(0, 6), 0);
    }

    private static void newChannels() {
        Bounds.says("36 CHANNEL c: a channel: its client's end, then its server's, both in state 0.");
        SealedProcesses x = Bounds.alone("contract\n state nobody\ncontract\n state nobody\n state client none>0\n",
            "PUSH 3, CHANNEL 1, CHANNEL 0, EXIT");
        Bounds.run(x, 3);
        int[] stack = {3, 0, 1, 2, 3};
        for (int i = 0; i < 5; i++) {
            Bounds.due("stack place " + i, x.value(0, 0, i), stack[i]);
        }
        for (int end = 0; end < 4; end++) {
            Bounds.dueAll("end " + end, Probe.end(x, end / 2, end % 2), 0, 0, 0);
        }
    }

    private static void messages() {
        Bounds.says("when one comes, it is the end in the state then, and above it the load, if there is one; on to "
            + "the T of that message.");
        // Four messages, each to a state of its own; all four of a state, the first and the last.
        String text = """
            record 0
            contract
              state client none>1 0>2 4.0>3 5.1.0.1>4
              state nobody
              state nobody
              state nobody
              state nobody
            contract
              state nobody
            function : none 4
              CHANNEL 0
              STORE 0
              @
              STORE 1
              LOAD 0
              RECEIVE a b c d
              a: YIELD
              EXIT
              b: YIELD
              EXIT
              c: YIELD
              EXIT
              d: YIELD
              EXIT
            """;
        String[] sends = {"SEND 0", "PUSH 77\n SEND 1", "BLOCK 0\n SEND 2",
            "CHANNEL 1\n STORE 2\n STORE 3\n LOAD 2\n SEND 3"};
        int[] lengths = {2, 7, 4, 10};
        int[] steps = {1, 2, 2, 5};
        int[] loads = {0, 77, 0, 3};
        for (int t = 0; t < 4; t++) {
            SealedProcesses x = Bounds.booted(text.replace("@", sends[t]), PLAIN);
            Bounds.run(x, 2 + steps[t] + 3);
            Bounds.due("the T of message " + t, x.process(0, 4), 4 + lengths[t] + 4 + 6 + 2 * t);
            Bounds.due("items", x.process(0, 6), t == 0 ? 1 : 2);
            Bounds.due("the end", x.value(0, 0, 0), 1);
            Bounds.due("its state then", x.channel(0, 1, 0), t + 1);
            Bounds.due("the sender's state then", x.channel(0, 0, 0), t + 1);
            if (t > 0) {
                Bounds.due("the load", x.value(0, 0, 1), loads[t]);
            }
        }
    }
}
