/** Promises 13 and 14: block, channel; what has one owner, how it is handed over, and how it goes. */
public final class GoodsTest {
    public static void main(String[] args) {
        blocks();
        blocksInMessages();
        messages();
        loneOrLoaded();
        waitingSenders();
        endsInMessages();
        closing();
        closingFar();
        endInItsOwnChannel();
        handedToChildren();
        handedToCalled();
        trapWithLinear();
        channelNumbers();
        Check.end();
    }

    private static SealedProcesses booted(String text, int[]... processes) {
        SealedProcesses x = Check.withModule(text);
        Check.due("boot", Check.boot(x, processes), processes.length);
        return x;
    }

    private static void dueEnd(SealedProcesses x, int channel, int side, int state, int owner, int waiting) {
        int[] want = {state, owner, waiting};
        for (int what = 0; what < 3; what++) {
            Check.due("channel " + channel + " " + side + " " + what, x.channel(channel, side, what), want[what]);
        }
    }

    private static void dueClosed(SealedProcesses x, int channel, int side) {
        dueEnd(x, channel, side, Check.NONE, Check.NONE, Check.NONE);
    }

    private static void blocks() {
        SealedProcesses x = booted("""
            record 0 0 0
            record 0
            function : none 3
              BLOCK 0
              PUSH 11
              SET 0
              PUSH -1
              SET 2
              BLOCK 1
              STORE 0
              SEE 0
              OUT
              SEE 1
              OUT
              BLOCK 0
              STORE 1
              LOAD 0
              FREE
              BLOCK 0
              FREE
              FREE
              BLOCK 1
              YIELD
              EXIT
            """, Asm.process(0, 0, 1));
        Check.due("none", x.block(0, 0), Check.NONE);
        x.run(5);
        int[] want = {3, 0, Check.NONE, Check.NONE, 11, 0, -1, Check.NONE};
        int[] whats = {0, 1, 2, 9, 10, 11, 12, 13};
        for (int i = 0; i < whats.length; i++) {
            Check.due("block 0 " + whats[i], x.block(0, whats[i]), want[i]);
        }
        Check.due("block -1", x.block(-1, 0), Check.NONE);
        Check.due("block 1", x.block(1, 0), Check.NONE);
        Check.due("block 128", x.block(128, 0), Check.NONE);
        Check.due("block 0 -1", x.block(0, -1), Check.NONE);
        x.run(8);
        Check.due("SEE", x.output(0, 1), 11);
        Check.due("SEE", x.output(1, 1), 0);
        Check.due("three", x.about(4), 3);
        Check.due("cells", x.about(5), 4 + 2 + 4);
        Check.due("one of one field", x.block(1, 0), 1);
        x.run(2);
        Check.due("freed", x.block(1, 0), Check.NONE);
        Check.due("two", x.about(4), 2);
        x.run(1);
        Check.due("the lowest number again", x.block(1, 0), 3);
        x.run(2);
        Check.due("one", x.about(4), 1);
        x.run(1);
        Check.due("the lowest number again, all 0", x.block(0, 10), 0);
        Check.due("its fields", x.block(0, 0), 1);
        x.run(2);
        Check.due("over", x.process(0, 0), 4);
        Check.due("its blocks go", x.about(4), 0);
        Check.due("its blocks go", x.about(5), 0);
        Check.due("its blocks go", x.block(2, 0), Check.NONE);
    }

    private static final String SENDER = """
        record 0
        contract
          state client 4.0>0 0>0 none>0
        function 5.0.0.0 : none 1
          LOAD 0
          b: BLOCK 0
          PUSH 6
          SET 0
          SEND 0
          JUMP b
        function 5.0.0.1 : none 1
          b: YIELD
          YIELD
          YIELD
          YIELD
          EXIT
        """;

    private static void blocksInMessages() {
        SealedProcesses x = booted(SENDER, Asm.process(0, 0, 1, 0), Asm.process(0, 1, 1, 0));
        x.run(5);
        Check.due("owner is what it waits for", x.block(0, 1), 101);
        dueEnd(x, 0, 1, 0, 1, 1);
        dueEnd(x, 0, 0, 0, 0, 0);
        x.run(3 + 1 + 8 + 1);
        Check.due("three wait", x.channel(0, 1, 2), 3);
        Check.due("three wait", x.about(4), 3);
        x.run(8);
        Check.due("one is made beside", x.block(4, 1), 0);
        Check.due("four wait", x.channel(0, 1, 2), 4);
        x.run(4);
        Check.due("over", x.process(1, 0), 4);
        dueClosed(x, 0, 1);
        dueEnd(x, 0, 0, 0, 0, 0);
        // What waited is gone; the one made beside is there still, or was sent and gone at once.
        x.run(3);
        Check.due("what is sent goes at once", x.about(4) <= 1, true);
        Check.due("what waited is gone", x.block(0, 1) != 101 && x.block(1, 1) != 101, true);
        Check.due("it never waits", x.run(1000), 1000);
    }

    private static void messages() {
        SealedProcesses x = booted("""
            contract
              state client 0>0 none>1 none>2
              state server 0>1 none>0
              state nobody
            function 5.0.0.0 : none 1
              LOAD 0
              PUSH 1
              SEND 0
              PUSH 2
              SEND 0
              SEND 1
              r: RECEIVE a b
              a: OUT
              JUMP r
              b: SEND 2
              CLOSE
              EXIT
            function 5.0.0.1 : none 1
              LOAD 0
              r: RECEIVE a b c
              a: OUT
              JUMP r
              b: PUSH 8
              SEND 0
              PUSH 9
              SEND 0
              SEND 1
              JUMP r
              c: CLOSE
              YIELD
              EXIT
            """, Asm.process(0, 0, 1, 0), Asm.process(0, 1, 1, 0));
        x.run(6);
        dueEnd(x, 0, 0, 1, 0, 0);
        dueEnd(x, 0, 1, 0, 1, 3);
        x.run(1);
        Check.due("waits to receive", x.process(0, 0), 2);
        x.run(1);
        dueEnd(x, 0, 1, 0, 1, 2);
        Check.due("its load", x.value(1, 0, 1), 1);
        Check.due("below it the end", x.value(1, 0, 0), 1);
        x.run(10000);
        int[] outs = {1, 2, 8, 9};
        int[] whose = {1, 1, 0, 0};
        Check.due("OUTs", x.about(6), 4);
        for (int i = 0; i < 4; i++) {
            Check.due("in order", x.output(i, 1), outs[i]);
            Check.due("in order", x.output(i, 0), whose[i]);
        }
        Check.due("both are over", x.about(2), 0);
        Check.due("no channel", x.about(3), 0);
        Check.due("no trap", x.process(0, 1) + x.process(1, 1), 0);
    }

    private static void loneOrLoaded() {
        // The load is an end whose turn it is, but whose message 1 has a load: so it is the load.
        SealedProcesses x = booted("""
            contract
              state client none>1 5.0.0.0>1
              state nobody
            function : none 3
              CHANNEL 0
              STORE 0
              CHANNEL 0
              STORE 1
              SEND 1
              CLOSE
              LOAD 0
              RECEIVE a b
              a: CLOSE
              EXIT
              b: SEND 0
              CLOSE
              CLOSE
              LOAD 1
              RECEIVE c d
              c: CLOSE
              EXIT
              d: EXIT
            """, Asm.process(0, 0, 1));
        x.run(5);
        Check.due("the end waits", x.channel(1, 0, 1), 101);
        dueEnd(x, 0, 1, 0, 0, 1);
        dueEnd(x, 0, 0, 1, 0, 0);
        x.run(3);
        Check.due("received", x.channel(1, 0, 1), 0);
        Check.due("received", x.value(0, 0, 1), 2);
        x.run(1);
        dueEnd(x, 1, 1, 0, 0, 1);
        x.run(100);
        Check.due("over", x.process(0, 0), 4);
        Check.due("no channels", x.about(3), 0);
    }

    private static void waitingSenders() {
        // The end is the highest where message 0 is sent, below its load where message 1 is.
        String text = """
            contract
              state client none>0 0>0
            function 0 : none 3
              CHANNEL 0
              STORE 1
              CHANNEL 0
              STORE 2
              PUSH 77
              SWAP
              LOAD 0
              ZERO a
              b: PUSH 5
              SEND 1
              JUMP b
              a: SEND 0
              JUMP a
            """;
        for (int lone = 0; lone < 2; lone++) {
            SealedProcesses x = booted(text, Asm.process(0, 0, 1, 0, 0, 0, 1 - lone));
            Check.due("steps till it waits", x.run(10000), 8 + (lone == 1 ? 4 * 2 : 4 * 3 + 1));
            Check.due("waits to send", x.process(0, 0), 3);
            Check.due("items", x.process(0, 6), lone == 1 ? 3 : 4);
            dueEnd(x, 1, 1, 0, 0, 4);
            dueEnd(x, 0, 1, 0, 0, 0);
            Check.due("still", x.about(1), 1);
        }
    }

    private static final String PASSES = """
        record 0
        contract
          state client 5.1.0.0>0 5.1.0.1>0
        contract
          state client 4.0>0 5.1.0.1>0
        function 5.0.0.0 : none 2
          LOAD 0
          CHANNEL 1
          STORE 1
          SEND 0
          LOAD 1
          SEND 1
          y: YIELD
          JUMP y
        function 5.0.0.1 : none 3
          LOAD 0
          RECEIVE a b
          a: STORE 1
          RECEIVE c d
          c: EXIT
          d: STORE 2
          LOAD 1
          BLOCK 0
          SEND 0
          YIELD
          EXIT
          b: EXIT
        """;

    private static void endsInMessages() {
        SealedProcesses x = booted(PASSES, Asm.process(0, 0, 1, 5), Asm.process(0, 1, 1, 5));
        x.run(2);
        dueEnd(x, 1, 0, 0, 0, 0);
        dueEnd(x, 1, 1, 0, 0, 0);
        x.run(2);
        dueEnd(x, 1, 0, 0, 101, 0);
        dueEnd(x, 1, 1, 0, 0, 0);
        Check.due("EMPTY", x.value(0, 1, 0), 0);
        x.run(2);
        dueEnd(x, 1, 1, 0, 101, 0);
        dueEnd(x, 0, 1, 0, 1, 2);
        x.run(1);
        x.run(2);
        dueEnd(x, 1, 0, 0, 1, 0);
        Check.due("the end came", x.value(1, 0, 1), 2);
        x.run(3);
        dueEnd(x, 1, 1, 0, 1, 0);
        x.run(2);
        Check.due("its own", x.block(0, 1), 1);
        x.run(1);
        Check.due("waits for its own other end", x.block(0, 1), 103);
        dueEnd(x, 1, 1, 0, 1, 1);
        x.run(100);
        Check.due("over", x.process(1, 0), 4);
        Check.due("the block that waited went with its end", x.about(4), 0);
        Check.due("only the first channel is there", x.about(3), 1);
        dueEnd(x, 0, 0, 0, 0, 0);
        dueClosed(x, 0, 1);
    }

    private static void closing() {
        // A closed end's messages go, and what they have: ends are closed likewise.
        SealedProcesses x = booted(PASSES + """
            function 5.0.0.1 : none 1
              YIELD
              EXIT
            """, Asm.process(0, 0, 1, 5), Asm.process(0, 2, 1, 5));
        x.run(7);
        Check.due("two channels", x.about(3), 2);
        dueEnd(x, 1, 0, 0, 101, 0);
        dueEnd(x, 1, 1, 0, 101, 0);
        x.run(1 + 2);
        x.run(1);
        Check.due("over", x.process(1, 0), 4);
        Check.due("one channel", x.about(3), 1);
        dueClosed(x, 1, 0);
        dueClosed(x, 1, 1);
        // A RECEIVE whose other end is closed gets what waits, and then waits for ever.
        x = booted("""
            contract
              state client 0>0
            function 5.0.0.0 : none 1
              LOAD 0
              PUSH 3
              SEND 0
              PUSH 4
              SEND 0
              EXIT
            function 5.0.0.1 : none 1
              LOAD 0
              r: RECEIVE a
              a: OUT
              JUMP r
            """, Asm.process(0, 0, 1, 5), Asm.process(0, 1, 1, 5));
        Check.due("till still", x.run(10000), 6 + 7);
        Check.due("what waited", x.about(6), 2);
        Check.due("waits", x.process(1, 0), 2);
        Check.due("still", x.about(1), 1);
        Check.due("its end is there", x.about(3), 1);
        dueClosed(x, 0, 0);
        dueEnd(x, 0, 1, 0, 1, 0);
    }

    private static void closingFar() {
        // An end that waits has an end waiting for it, that has a block: all go when the first is closed.
        SealedProcesses x = booted("""
            record 0
            contract
              state client 5.1.0.1>0
              state nobody
            contract
              state client 5.2.0.1>0
            contract
              state client 4.0>0
            function 5.0.0.0 : none 5
              CHANNEL 2
              STORE 4
              BLOCK 0
              SEND 0
              STORE 1
              CHANNEL 1
              STORE 2
              LOAD 4
              SEND 0
              STORE 3
              LOAD 0
              LOAD 2
              SEND 0
              STORE 0
              y: YIELD
              JUMP y
            function 5.0.0.1 : none 1
              b: YIELD
              YIELD
              EXIT
            """, Asm.process(0, 0, 1, 5), Asm.process(0, 1, 1, 5));
        x.run(8 + 1 + 7);
        Check.due("three channels", x.about(3), 3);
        Check.due("the block waits for channel 1's server", x.block(0, 1), 103);
        dueEnd(x, 1, 1, 0, 105, 1);
        dueEnd(x, 2, 1, 0, 101, 1);
        dueEnd(x, 0, 1, 0, 1, 1);
        x.run(1 + 2 + 1);
        Check.due("over", x.process(1, 0), 4);
        Check.due("the block is gone", x.about(4), 0);
        for (int c = 0; c < 3; c++) {
            dueClosed(x, c, 1);
            dueEnd(x, c, 0, 0, 0, 0);
        }
        Check.due("their other ends stay", x.about(3), 3);
    }

    private static void endInItsOwnChannel() {
        // The server's end waits for itself: nobody can close it any more.
        SealedProcesses x = booted("""
            contract
              state client 5.0.0.1>1
              state nobody
            function : none 0
              CHANNEL 0
              SEND 0
              CLOSE
              EXIT
            """, Asm.process(0, 0, 1));
        x.run(2);
        dueEnd(x, 0, 1, 0, 101, 1);
        dueEnd(x, 0, 0, 1, 0, 0);
        x.run(2);
        dueClosed(x, 0, 0);
        dueEnd(x, 0, 1, 0, 101, 1);
        Check.due("it stays", x.about(3), 1);
        Check.due("over", x.about(2), 0);
    }

    private static void handedToChildren() {
        SealedProcesses x = booted("""
            record 0
            contract
              state client none>0
            function : none 1
              CHANNEL 0
              BLOCK 0
              PUSH 7
              SPAWN 1
              STORE 0
              y: YIELD
              JUMP y
            function 5.0.0.1 4.0 0 : none 4
              y: YIELD
              EXIT
            """, Asm.process(0, 0, 1));
        x.run(5);
        dueEnd(x, 0, 0, 0, 0, 0);
        dueEnd(x, 0, 1, 0, 1, 0);
        Check.due("the child's block", x.block(0, 1), 1);
        Check.due("the parent has its end", x.value(0, 1, 0), 0);
        int[] locals = {1, 0, 7, 0};
        for (int i = 0; i < 4; i++) {
            Check.due("the child's local " + i, x.value(1, 1, i), locals[i]);
        }
        x.run(10);
        Check.due("the child is over", x.process(1, 0), 4);
        Check.due("its block went", x.about(4), 0);
        dueClosed(x, 0, 1);
        dueEnd(x, 0, 0, 0, 0, 0);
    }

    private static void handedToCalled() {
        SealedProcesses x = booted("""
            record 0 0
            function : none 1
              BLOCK 0
              CALL 1
              FREE
              EXIT
            function 4.0 : 4.0 1
              LOAD 0
              PUSH 3
              SET 1
              RETURN
            """, Asm.process(0, 0, 1));
        x.run(3);
        Check.due("EMPTY there", x.value(0, 1, 0), 0);
        x.run(3);
        Check.due("back with it", x.value(0, 0, 0), 0);
        Check.due("its field", x.block(0, 11), 3);
        Check.due("its owner", x.block(0, 1), 0);
        x.run(1);
        Check.due("freed", x.about(4), 0);
    }

    private static void trapWithLinear() {
        SealedProcesses x = booted("""
            record 0
            contract
              state client none>0
            function : none 1
              CHANNEL 0
              STORE 0
              NIL
              BLOCK 0
              PUT 0
            """, Asm.process(0, 0, 1));
        Check.due("steps", x.run(100), 5);
        Check.due("trap", x.process(0, 1), 1);
        Check.due("no block", x.about(4), 0);
        Check.due("no channel", x.about(3), 0);
        // A spawn too many: what it took goes with the process.
        x = booted("""
            record 0
            function : none 0
              b: BLOCK 0
              SPAWN 1
              JUMP b
            function 4.0 : none 1
              b: YIELD
              JUMP b
            """, Asm.process(0, 0, 1));
        x.run(500);
        Check.due("trap", x.process(0, 1), 8);
        Check.due("the children's blocks", x.about(4), 11);
        Check.due("the parent's is gone", x.block(11, 0), Check.NONE);
        Check.due("the last child's", x.block(10, 1), 11);
    }

    private static void channelNumbers() {
        SealedProcesses x = booted("""
            contract
              state client none>1
              state nobody
            function : none 4
              CHANNEL 0
              CHANNEL 0
              STORE 0
              STORE 1
              RECEIVE z
              z: STORE 2
              EXIT
            function : none 4
              CHANNEL 0
              STORE 0
              STORE 1
              CHANNEL 0
              STORE 2
              STORE 3
              LOAD 1
              SEND 0
              CLOSE
              LOAD 0
              RECEIVE z
              z: CLOSE
              CHANNEL 0
              EXIT
            """, Asm.process(0, 1, 1));
        Check.due("no channel", x.channel(0, 0, 0), Check.NONE);
        x.run(6);
        Check.due("two", x.about(3), 2);
        Check.due("side -1", x.channel(0, -1, 0), Check.NONE);
        Check.due("side 2", x.channel(0, 2, 0), Check.NONE);
        Check.due("channel -1", x.channel(-1, 0, 0), Check.NONE);
        Check.due("channel 2", x.channel(2, 0, 0), Check.NONE);
        Check.due("channel 12", x.channel(12, 0, 0), Check.NONE);
        Check.due("what 3", x.channel(0, 0, 3), Check.NONE);
        Check.due("what -1", x.channel(0, 0, -1), Check.NONE);
        x.run(3);
        dueClosed(x, 0, 0);
        dueEnd(x, 0, 1, 0, 0, 1);
        x.run(3);
        Check.due("one is free", x.about(3), 1);
        dueClosed(x, 0, 1);
        x.run(1);
        Check.due("its number again", x.value(0, 0, 0), 0);
        dueEnd(x, 0, 0, 0, 0, 0);
        x.run(1);
        Check.due("all are closed", x.about(3), 0);
    }
}
