/** PART 3's bounds of channels and blocks: closing, handing over; a test for each of the document's sentences. */
public final class GoodsBoundsTest {
    public static void main(String[] args) throws Exception {
        Bounds.open(args);
        overWithBlocks();
        inOrder();
        ownersOfLoads();
        sentToAClosedEnd();
        waitingForAClosedEnd();
        closedLikewise();
        nothingComesAnyMore();
        onlyItsOwn();
        whichIsTheEnd();
        numbersThatLookAlike();
        Check.end();
    }

    private static void dueEnd(SealedProcesses x, int channel, int side, int state, int owner, int waiting) {
        Bounds.dueAll("channel " + channel + ", side " + side, Probe.end(x, channel, side), state, owner, waiting);
    }

    private static void dueClosed(SealedProcesses x, int channel, int side) {
        dueEnd(x, channel, side, Check.NONE, Check.NONE, Check.NONE);
    }

    private static final String ENDINGS = """
        record 0 0
        contract
          state client none>0
        function : none 1
          CALL 4
          RETURN
        function : none 1
          CALL 3
          RETURN
        function : none 1
          CALL 5
          RETURN
        function : none 2
          BLOCK 0
          CHANNEL 0
          STORE 0
          BLOCK 0
          EXIT
        function : none 2
          BLOCK 0
          STORE 0
          LOAD 0
          FREE
          RETURN
        function : none 2
          BLOCK 0
          CHANNEL 0
          STORE 0
          BLOCK 0
          NIL
          LENGTH
        """;

    private static void overWithBlocks() {
        Bounds.says("Its blocks go then, its ends are CLOSED.");
        // By EXIT, and by a trap, both in a function that was called.
        for (int first : new int[] {1, 2}) {
            SealedProcesses x = Bounds.booted(ENDINGS, Asm.process(0, first, 1), Asm.process(0, 0, 1));
            Bounds.run(x, 5);
            Bounds.dueAll("about", Probe.about(x), 5, 0, 2, 1, 2, 6, 0);
            Bounds.run(x, first);
            Bounds.due("over", x.process(0, 0), first == 1 ? 4 : 5);
            Bounds.dueAll("about", Probe.about(x), 5 + first, 0, 1, 0, 0, 0, 0);
            dueClosed(x, 0, 0);
            dueClosed(x, 0, 1);
            Bounds.due("block 0", x.block(0, 0), Check.NONE);
            Bounds.due("block 1", x.block(1, 0), Check.NONE);
        }
        // By RETURN from its first function: the end's own other end is another's, and stays.
        SealedProcesses x = Bounds.booted("""
            contract
              state nobody
            function 5.0.0.0 : none 1
              LOAD 0
              CLOSE
              RETURN
            function 5.0.0.1 : none 1
              b: YIELD
              JUMP b
            """, Asm.process(0, 0, 1, 0), Asm.process(0, 1, 1, 0));
        Bounds.run(x, 1);
        dueEnd(x, 0, 0, 0, 0, 0);
        Bounds.run(x, 1);
        dueClosed(x, 0, 0);
        Bounds.run(x, 1);
        dueEnd(x, 0, 1, 0, 1, 0);
        Bounds.due("the channel is there", x.about(3), 1);
    }

    private static void inOrder() {
        Bounds.says("CHANNELS: a message waits for the other end, in order, and has its load:");
        SealedProcesses x = Bounds.booted("""
            contract
              state client 0>0 none>0
            function 5.0.0.0 : none 1
              LOAD 0
              PUSH 11
              SEND 0
              SEND 1
              PUSH 22
              SEND 0
              PUSH 33
              SEND 0
              b: YIELD
              JUMP b
            function 5.0.0.1 : none 1
              LOAD 0
              YIELD
              YIELD
              r: RECEIVE a b
              a: OUT
              JUMP r
              b: PUSH -7
              OUT
              JUMP r
            """, Asm.process(0, 0, 1, 0), Asm.process(0, 1, 1, 0));
        Bounds.run(x, 8 + 2);
        Bounds.due("four wait", x.channel(0, 1, 2), 4);
        Bounds.due("none waits for the sender's own", x.channel(0, 0, 2), 0);
        Bounds.run(x, 60);
        int[] outs = {11, -7, 22, 33};
        Bounds.due("OUTs", x.about(6), 4);
        for (int i = 0; i < 4; i++) {
            Bounds.due("OUT " + i, x.output(i, 1), outs[i]);
        }
    }

    private static final String PASSING = """
        record 0
        contract
          state client 4.0>0 5.1.0.0>0 5.1.0.1>0
        contract
          state client 4.0>1
          state nobody
        function 5.0.0.0 : none 3
          CHANNEL 1
          STORE 1
          STORE 2
          LOAD 0
          BLOCK 0
          SEND 0
          YIELD
          LOAD 2
          SEND 1
          LOAD 1
          SEND 2
          b: YIELD
          JUMP b
        function 5.0.0.1 : none 1
          b: YIELD
          JUMP b
        function 5.0.0.1 : none 1
          YIELD
          YIELD
          EXIT
        function 5.0.0.1 : none 3
          YIELD
          YIELD
          LOAD 0
          RECEIVE a b c
          a: STORE 1
          RECEIVE d e f
          d: EXIT
          e: STORE 2
          EXIT
          f: EXIT
          b: EXIT
          c: EXIT
        function 5.0.0.1 : none 1
          EXIT
        """;

    private static void ownersOfLoads() {
        Bounds.says("that block's, that end's OWNER is the waiting message's end.");
        SealedProcesses x = Bounds.booted(PASSING, Asm.process(0, 0, 1, 0), Asm.process(0, 3, 1, 0));
        Bounds.run(x, 5);
        Bounds.due("the block is its maker's", x.block(0, 1), 0);
        Bounds.run(x, 1);
        Bounds.due("the block waits for channel 0's server", x.block(0, 1), 101);
        dueEnd(x, 0, 1, 0, 1, 1);
        Bounds.run(x, 1 + 1);
        dueEnd(x, 1, 0, 0, 0, 0);
        Bounds.run(x, 2);
        dueEnd(x, 1, 0, 0, 101, 0);
        dueEnd(x, 1, 1, 0, 0, 0);
        Bounds.run(x, 2);
        dueEnd(x, 1, 1, 0, 101, 0);
        dueEnd(x, 0, 1, 0, 1, 3);
        Bounds.run(x, 1 + 1 + 2);
        // Both have yielded; then LOAD and RECEIVE of the second.
        Bounds.run(x, 2);
        Bounds.due("the block is the receiver's", x.block(0, 1), 1);
        Bounds.due("the receiver has it", x.value(1, 0, 1), 0);
        dueEnd(x, 0, 1, 0, 1, 2);
        Bounds.run(x, 2);
        dueEnd(x, 1, 0, 0, 1, 0);
        dueEnd(x, 1, 1, 0, 101, 0);
        Bounds.due("the receiver has it", x.value(1, 0, 1), 2);
        // The receiver is over: what it has and what waited for it goes.
        Bounds.run(x, 2);
        Bounds.due("over", x.process(1, 0), 4);
        Bounds.due("no block", x.about(4), 0);
        Bounds.due("one channel", x.about(3), 1);
        dueEnd(x, 0, 0, 0, 0, 0);
        dueClosed(x, 0, 1);
    }

    private static void sentToAClosedEnd() {
        Bounds.says("When the other end is closed, a message goes at once, with what it has.");
        SealedProcesses x = Bounds.booted(PASSING, Asm.process(0, 4, 1, 0), Asm.process(0, 0, 1, 0));
        // The server's process 0 is over at once: function 4 has the server's end.
        Bounds.run(x, 1);
        dueClosed(x, 0, 1);
        Bounds.run(x, 5);
        Bounds.due("a block", x.about(4), 1);
        Bounds.run(x, 1);
        Bounds.due("it goes at once", x.about(4), 0);
        Bounds.due("its cells", x.about(5), 0);
        dueEnd(x, 0, 0, 0, 1, 0);
        dueClosed(x, 0, 1);
        Bounds.run(x, 1 + 2);
        dueClosed(x, 1, 0);
        dueEnd(x, 1, 1, 0, 1, 0);
        Bounds.due("two channels", x.about(3), 2);
        Bounds.run(x, 2);
        dueClosed(x, 1, 1);
        Bounds.due("one channel", x.about(3), 1);
        // More than four may be sent so, and the sender never waits.
        x = Bounds.booted("contract\n state client none>0\nfunction 5.0.0.0 : none 1\n LOAD 0\n b: SEND 0\n JUMP b\n"
            + "function 5.0.0.1 : none 1\n EXIT\n", Asm.process(0, 1, 1, 0), Asm.process(0, 0, 1, 0));
        Bounds.run(x, 10000);
        Bounds.due("goes on", x.process(1, 0), 1);
        dueEnd(x, 0, 0, 0, 1, 0);
    }

    private static void waitingForAClosedEnd() {
        Bounds.says("An end that is closed goes, and all messages that wait for it, with what they have: blocks go, "
            + "ends are closed likewise.");
        SealedProcesses x = Bounds.booted(PASSING, Asm.process(0, 0, 1, 0), Asm.process(0, 2, 1, 0));
        Bounds.run(x, 7 + 1 + 5);
        dueEnd(x, 0, 1, 0, 1, 3);
        Bounds.dueAll("about", Probe.about(x), 13, 0, 2, 2, 1, 2, 0);
        Bounds.run(x, 1 + 2);
        Bounds.dueAll("about", Probe.about(x), 16, 0, 2, 2, 1, 2, 0);
        Bounds.run(x, 1);
        Bounds.due("over", x.process(1, 0), 4);
        Bounds.dueAll("about", Probe.about(x), 17, 0, 1, 1, 0, 0, 0);
        dueClosed(x, 0, 1);
        dueClosed(x, 1, 0);
        dueClosed(x, 1, 1);
        dueEnd(x, 0, 0, 0, 0, 0);
        // Four that wait for a sender who waits: it goes on then.
        x = Bounds.booted("contract\n state client none>0\nfunction 5.0.0.0 : none 1\n LOAD 0\n b: SEND 0\n JUMP b\n"
            + "function 5.0.0.1 : none 1\n YIELD\n YIELD\n YIELD\n EXIT\n",
            Asm.process(0, 0, 1, 0), Asm.process(0, 1, 1, 0));
        Bounds.run(x, 8 + 1 + 1 + 1);
        Bounds.due("waits", x.process(0, 0), 3);
        Bounds.due("four", x.channel(0, 1, 2), 4);
        Bounds.due("steps", x.process(0, 9), 9);
        Bounds.run(x, 1);
        Bounds.due("steps", x.process(1, 9), 3);
        Bounds.run(x, 1);
        dueClosed(x, 0, 1);
        Bounds.due("waits, as it was found", x.process(0, 0), 3);
        Bounds.run(x, 1);
        Bounds.due("goes on", x.process(0, 0), 1);
    }

    private static void closedLikewise() {
        // Ends that wait for ends that wait: as far as eleven channels go, all at once.
        StringBuilder text = new StringBuilder("record 0\n");
        text.append("contract\n state client 5.0.0.1>0 4.0>0 none>1\n state nobody\n");
        // The first function makes a channel, sends it what it was given, and calls itself with the server's end.
        text.append("function : none 3\n CHANNEL 0\n SWAP\n BLOCK 0\n SEND 1\n STORE 0\n PUSH 10\n CALL 1\n EXIT\n");
        text.append("function 5.0.0.1 0 : none 4\n CHANNEL 0\n STORE 2\n LOAD 0\n SEND 0\n STORE 3\n LOAD 1\n"
            + " PUSH 1\n SUB\n DUP\n ZERO e\n STORE 1\n LOAD 2\n LOAD 1\n CALL 1\n EXIT\n e: POP\n LOAD 2\n SPAWN 2\n"
            + " b: YIELD\n JUMP b\n");
        text.append("function 5.0.0.1 : none 1\n b: YIELD\n YIELD\n EXIT\n");
        SealedProcesses x = Bounds.booted(text.toString(), Asm.process(0, 0, 1));
        // Seven steps of the first, fourteen of each that calls again, thirteen of the last with its SPAWN.
        Bounds.run(x, 7 + 9 * 14 + 13);
        Bounds.due("the child is there", x.about(2), 2);
        Bounds.due("eleven channels", x.about(3), 11);
        Bounds.due("the block waits for channel 0's server", x.block(0, 1), 101);
        for (int c = 0; c < 10; c++) {
            dueEnd(x, c, 0, 0, 0, 0);
            dueEnd(x, c, 1, 0, 100 + 2 * (c + 1) + 1, 1);
        }
        dueEnd(x, 10, 1, 0, 1, 1);
        x.run(30);
        Bounds.due("the child is over", x.process(1, 0), 4);
        Bounds.due("the block went", x.about(4), 0);
        for (int c = 0; c < 11; c++) {
            dueEnd(x, c, 0, 0, 0, 0);
            dueClosed(x, c, 1);
        }
        Bounds.due("their client's ends stay", x.about(3), 11);
    }

    private static void nothingComesAnyMore() {
        Bounds.says("To an end whose other one is closed nothing comes any more: a RECEIVE there WAITS for ever, "
            + "when nothing waits.");
        for (int messages = 0; messages <= 4; messages++) {
            SealedProcesses x = Bounds.booted("contract\n state client 0>0\nfunction 5.0.0.0 : none 1\n LOAD 0\n"
                + " PUSH 5\n SEND 0\n".repeat(messages) + " EXIT\nfunction 5.0.0.1 : none 1\n LOAD 0\n r: RECEIVE a\n"
                + " a: OUT\n JUMP r\n", Asm.process(0, 0, 1, 0), Asm.process(0, 1, 1, 0));
            Bounds.due("steps", x.run(10000), 2 + 2 * messages + 1 + 3 * messages);
            Bounds.due("what waited came", x.about(6), messages);
            Bounds.due("waits", x.process(1, 0), 2);
            Bounds.due("still", x.about(1), 1);
            Bounds.due("for ever", x.run(10000), 0);
            dueClosed(x, 0, 0);
            dueEnd(x, 0, 1, 0, 1, 0);
            Bounds.due("the channel is there", x.about(3), 1);
        }
    }

    private static void onlyItsOwn() {
        Bounds.says("blocks with one owner, which are handed over");
        // Two processes with a block and a channel each, and one beside: just those of the one that is over go.
        String text = "record 0\ncontract\n state client none>0\nfunction : none 1\n BLOCK 0\n CHANNEL 0\n YIELD\n"
            + " YIELD\n EXIT\nfunction : none 1\n BLOCK 0\n CHANNEL 0\n b: YIELD\n JUMP b\n";
        SealedProcesses x = Bounds.booted(text, Asm.process(0, 1, 1), Asm.process(0, 0, 1), Asm.process(0, 1, 1));
        Bounds.run(x, 3 * 3);
        Bounds.dueAll("about", Probe.about(x), 9, 0, 3, 3, 3, 6, 0);
        Bounds.run(x, 2 + 1 + 2 + 2 + 1);
        Bounds.due("over", x.process(1, 0), 4);
        Bounds.dueAll("about", Probe.about(x), 17, 0, 2, 2, 2, 4, 0);
        for (int p = 0; p <= 2; p += 2) {
            dueEnd(x, p, 0, 0, p, 0);
            dueEnd(x, p, 1, 0, p, 0);
            Bounds.due("its block", x.block(p, 1), p);
        }
        dueClosed(x, 1, 0);
        dueClosed(x, 1, 1);
        Bounds.due("its block", x.block(1, 1), Check.NONE);
    }

    private static void whichIsTheEnd() {
        Bounds.says("(The highest is the end if it is an end whose turn it is, with a message t without a load; else "
            + "it is the load.)");
        // A server's end whose turn it is, with an end below it that is none of the sender's.
        SealedProcesses x = Bounds.booted("""
            contract
              state server none>1
              state nobody
            function : none 2
              CHANNEL 0
              SEND 0
              CLOSE
              RECEIVE r
              r: CLOSE
              EXIT
            """, Asm.process(0, 0, 1));
        Bounds.run(x, 2);
        dueEnd(x, 0, 0, 0, 0, 1);
        dueEnd(x, 0, 1, 1, 0, 0);
        Bounds.run(x, 4);
        Bounds.due("over", x.process(0, 0), 4);
        // A server's end whose turn it is not, though message 0 of its state has no load: it is the load.
        // Then a client's end whose turn it is, whose message 1 has a load: it is the load, too.
        x = Bounds.booted("""
            contract
              state client 5.1.0.1>0 5.1.0.0>1
              state nobody
            contract
              state client none>0 0>0
            function : none 4
              CHANNEL 0
              STORE 0
              CHANNEL 1
              SWAP
              STORE 1
              SEND 0
              LOAD 1
              SEND 1
              CLOSE
              EXIT
            """, Asm.process(0, 0, 1));
        Bounds.run(x, 6);
        dueEnd(x, 0, 0, 0, 0, 0);
        dueEnd(x, 0, 1, 0, 0, 1);
        dueEnd(x, 1, 0, 0, 0, 0);
        dueEnd(x, 1, 1, 0, 101, 0);
        Bounds.run(x, 2);
        dueEnd(x, 0, 0, 1, 0, 0);
        dueEnd(x, 0, 1, 0, 0, 2);
        dueEnd(x, 1, 0, 0, 101, 0);
    }

    private static void numbersThatLookAlike() {
        // An INT, a block and an end with one and the same number: each is handed over by itself.
        String text = """
            record 0
            contract
              state client 0>0 4.0>0
            contract
              state client none>0
            function 5.0.0.0 5.1.0.0 : none 3
              BLOCK 0
              STORE 2
              LOAD 0
              PUSH 0
              SEND 0
              PUSH 2
              SEND 0
              PUSH 0
              SPAWN 2
              LOAD 2
              SEND 1
              b: YIELD
              JUMP b
            function 5.0.0.1 5.1.0.1 : none 2
              b: YIELD
              JUMP b
            function 0 : none 1
              b: YIELD
              JUMP b
            """;
        SealedProcesses x = Bounds.booted(text, Asm.process(0, 0, 1, 0, 1), Asm.process(0, 1, 1, 0, 1));
        Bounds.run(x, 5);
        Bounds.due("INT 0 is not block 0", x.block(0, 1), 0);
        dueEnd(x, 0, 0, 0, 0, 0);
        dueEnd(x, 0, 1, 0, 1, 1);
        Bounds.run(x, 2);
        // INT 2 is not the client's end of channel 1, that could send such a message alone.
        dueEnd(x, 0, 1, 0, 1, 2);
        dueEnd(x, 1, 0, 0, 0, 0);
        dueEnd(x, 1, 1, 0, 1, 0);
        Bounds.run(x, 1 + 1 + 1);
        Bounds.due("the child is there", x.about(2), 3);
        Bounds.due("INT 0 is not block 0", x.block(0, 1), 0);
        dueEnd(x, 0, 0, 0, 0, 0);
        Bounds.run(x, 1 + 2);
        Bounds.due("block 0 waits", x.block(0, 1), 101);
        dueEnd(x, 0, 0, 0, 0, 0);
        dueEnd(x, 0, 1, 0, 1, 3);
    }
}
