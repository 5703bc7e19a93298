/** Heaps: what is reached, what takes no room, and trap 5 (promises 9, 11 and 12). */
public final class HeapTest {
    public static void main(String[] args) {
        exactRoom();
        whatIsReached();
        garbageTakesNoRoom();
        longChains();
        rings();
        ownHeaps();
        rowsOfNodes();
        contentsStay();
        deepest();
        Check.end();
    }

    private static SealedProcesses booted(int size, String text) {
        SealedProcesses x = Check.withModule(text);
        Check.due("boot", Check.boot(x, Asm.process(0, 0, size)), 1);
        return x;
    }

    private static void exactRoom() {
        // A row of n takes n and 1; a node of two fields takes three.
        SealedProcesses x = booted(1, """
            record 0 1.0
            function : none 3
              PUSH 9
              ROW
              STORE 0
              NEW 0
              STORE 1
              NEW 0
              STORE 2
              YIELD
              PUSH 0
              ROW
              EXIT
            """);
        x.run(3);
        Check.due("a row", x.process(0, 7), 10);
        x.run(5);
        Check.due("just full", x.process(0, 7), 16);
        Check.due("goes on", x.process(0, 0), 1);
        x.run(2);
        Check.due("no room for an empty row", x.process(0, 1), 5);
        x = booted(64, "function : none 1\n PUSH 1023\n ROW\n STORE 0\n YIELD\n PUSH 0\n ROW\n EXIT");
        x.run(4);
        Check.due("the most", x.process(0, 7), 1024);
        x.run(2);
        Check.due("no room", x.process(0, 1), 5);
        x = booted(64, "function : none 1\n PUSH 1024\n ROW\n EXIT");
        x.run(2);
        Check.due("no room", x.process(0, 1), 5);
    }

    private static void whatIsReached() {
        SealedProcesses x = booted(2, """
            record 0 1.0
            function : none 3
              NEW 0
              DUP
              CALL 1
              YIELD
              POP
              EXIT
            function 1.0 : none 4
              NEW 0
              STORE 1
              LOAD 0
              LOAD 1
              PUT 1
              PUSH 2
              ROW
              STORE 2
              LOAD 2
              NIL
              STORE 2
              POP
              NIL
              STORE 1
              LOAD 0
              NIL
              PUT 1
              RETURN
            """);
        int[][] want = {{1, 3}, {2, 3}, {3, 3}, {4, 6}, {5, 6}, {6, 6}, {8, 6}, {9, 6}, {10, 9}, {11, 9}, {12, 9},
            {14, 9}, {15, 6}, {17, 6}, {20, 3}, {21, 3}, {22, 3}, {23, 0}};
        for (int[] row : want) {
            x.run(row[0] - x.about(0));
            Check.due("reached at step " + row[0], x.process(0, 7), row[1]);
        }
        // A local that joining made EMPTY still reaches what was stored.
        x = booted(1, """
            record 0 1.0
            function : none 2
              PUSH 1
              ZERO e
              NEW 0
              STORE 1
              e: YIELD
              PUSH 10
              ROW
              EXIT
            """);
        x.run(5);
        Check.due("EMPTY by its type", x.typeAt(0, 0, 11, 1, 1), 7);
        Check.due("reached", x.process(0, 7), 3);
        Check.due("its value", x.value(0, 1, 1), 1);
        x.run(2);
        Check.due("room with it", x.process(0, 7), 14);
    }

    private static void garbageTakesNoRoom() {
        SealedProcesses x = booted(1, """
            record 0 1.0 2
            function : none 2
              b: NEW 0
              DUP
              PUSH 3
              ROW
              PUT 2
              STORE 0
              JUMP b
            """);
        Check.due("for ever", x.run(10000), 10000);
        Check.due("goes on", x.process(0, 0), 1);
        Check.due("no more than its heap", x.process(0, 7) <= 16, true);
    }

    private static void longChains() {
        SealedProcesses x = booted(64, """
            record 0 1.0
            function : none 3
              PUSH 0
              STORE 1
              NIL
              STORE 0
              b: NEW 0
              DUP
              LOAD 0
              PUT 1
              DUP
              LOAD 1
              PUSH 1
              ADD
              DUP
              STORE 1
              PUT 0
              STORE 0
              PUSH 1
              ROW
              POP
              JUMP b
            """);
        Check.due("till no room", x.run(10000) < 10000, true);
        Check.due("trap", x.process(0, 1), 5);
        // 341 nodes of three cells are 1023; the row of one does not fit any more beside them.
        Check.due("nodes", (x.process(0, 9) - 4) / 16, 340);
    }

    private static void rings() {
        // Nodes that point to one another are not reached by that.
        SealedProcesses x = booted(1, """
            record 1.0 0
            function : none 2
              b: NEW 0
              DUP
              STORE 0
              NEW 0
              DUP
              STORE 1
              PUT 0
              LOAD 1
              LOAD 0
              PUT 0
              NEW 0
              DUP
              DUP
              PUT 0
              POP
              NIL
              STORE 0
              NIL
              STORE 1
              JUMP b
            """);
        Check.due("for ever", x.run(5000), 5000);
        x = booted(1, """
            record 1.0 0
            function : none 1
              NEW 0
              DUP
              DUP
              PUT 0
              STORE 0
              YIELD
              LOAD 0
              GET 0
              GET 0
              NONE
              OUT
              EXIT
            """);
        x.run(6);
        Check.due("once", x.process(0, 7), 3);
        x.run(10);
        Check.due("itself", x.output(0, 1), 0);
    }

    private static void ownHeaps() {
        SealedProcesses x = Check.withModule("""
            record 0
            function 0 : none 2
              b: LOAD 0
              ROW
              STORE 1
              YIELD
              JUMP b
            """);
        Check.boot(x, Asm.process(0, 0, 1, 0, 0, 0, 15), Asm.process(0, 0, 1, 0, 0, 0, 16),
            Asm.process(0, 0, 2, 0, 0, 0, 16), Asm.process(0, 0, 4, 0, 0, 0, 31));
        x.run(4 + 2 + 4 + 4);
        Check.due("just its heap", x.process(0, 7), 16);
        Check.due("too small", x.process(1, 1), 5);
        Check.due("larger", x.process(2, 7), 17);
        Check.due("larger", x.process(3, 7), 32);
        int[] heaps = {16, 16, 32, 64};
        for (int p = 0; p < 4; p++) {
            Check.due("cells of its heap", x.process(p, 8), heaps[p]);
        }
        x.run(4);
        // The old row is still in its local while the new one is asked for.
        Check.due("no room for two", x.process(0, 1), 5);
        x.run(20);
        Check.due("no room for two", x.process(2, 1), 5);
        Check.due("room for two", x.process(3, 0), 1);
    }

    private static void deepest() {
        // Sixteen activations, each with a node; the deepest makes garbage; then all go back.
        SealedProcesses x = booted(4, """
            record 0 1.0
            function : none 0
              PUSH 15
              CALL 1
              OUT
              EXIT
            function 0 : 0 2
              NEW 0
              STORE 1
              LOAD 1
              LOAD 0
              PUT 0
              LOAD 0
              PUSH 1
              SUB
              DUP
              ZERO d
              CALL 1
              LOAD 1
              GET 0
              ADD
              RETURN
              d: POP
              PUSH 0
              g: NEW 0
              GET 1
              POP
              PUSH 1
              ADD
              DUP
              PUSH 30
              LESS
              ZERO r
              JUMP g
              r: LOAD 1
              GET 0
              ADD
              RETURN
            """);
        x.run(2 + 14 * 11 + 13);
        Check.due("activations", x.process(0, 5), 16);
        Check.due("function", x.process(0, 3), 1);
        Check.due("reached", x.process(0, 7), 45 + 3);
        Check.due("goes on", x.run(10000) < 10000, true);
        Check.due("over", x.process(0, 0), 4);
        // 30, and what the nodes have: 1 to 15.
        Check.due("sum", x.output(0, 1), 30 + 120);
    }

    private static void rowsOfNodes() {
        SealedProcesses x = booted(2, """
            record 0
            function : none 2
              PUSH 3
              ROWS 0
              STORE 0
              LOAD 0
              PUSH 1
              NEW 0
              LAY
              LOAD 0
              PUSH 1
              TAKE
              PUSH 42
              PUT 0
              YIELD
              LOAD 0
              PUSH 0
              TAKE
              NONE
              OUT
              PUSH 20
              ROW
              POP
              PUSH 20
              ROW
              POP
              LOAD 0
              PUSH 1
              TAKE
              GET 0
              OUT
              LOAD 0
              LENGTH
              OUT
              EXIT
            """);
        x.run(13);
        Check.due("a row and a node", x.process(0, 7), 4 + 2);
        x.run(100);
        Check.due("over", x.process(0, 0), 4);
        int[] outs = {1, 42, 3};
        for (int i = 0; i < 3; i++) {
            Check.due("OUT", x.output(i, 1), outs[i]);
        }
    }

    private static void contentsStay() {
        // A list of 1 to 5 is summed again and again while garbage is swept; INTs that look like pointers stay.
        SealedProcesses x = booted(2, """
            record 0 1.0
            function : none 4
              NIL
              STORE 0
              PUSH 5
              STORE 1
              m: NEW 0
              DUP
              LOAD 1
              PUT 0
              DUP
              LOAD 0
              PUT 1
              STORE 0
              LOAD 1
              PUSH 1
              SUB
              DUP
              STORE 1
              ZERO s
              JUMP m
              s: LOAD 0
              STORE 2
              PUSH 0
              STORE 3
              a: LOAD 2
              NONE
              ZERO t
              LOAD 3
              OUT
              JUMP s
              t: LOAD 2
              GET 0
              LOAD 3
              ADD
              STORE 3
              PUSH 10
              ROW
              POP
              LOAD 2
              GET 1
              STORE 2
              JUMP a
            """);
        x.run(10000);
        Check.due("many", x.about(6) > 50, true);
        for (int i = 0; i < x.about(6); i++) {
            Check.due("sum", x.output(i, 1), 15);
        }
    }
}
