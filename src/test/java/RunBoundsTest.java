/** PART 3's bounds: what there is at most, turns, traps; a test for each of the document's sentences. */
public final class RunBoundsTest {
    private static final String RECORDS = "record 0 1.0\nrecord 0 0\nrecord 0 0 0 0 0 0\nrecord 0\n";
    private static final int[] PLAIN = {0, 0, 1};
    private static final int LEAST = Integer.MIN_VALUE;
    private static final int MOST = Integer.MAX_VALUE;

    public static void main(String[] args) throws Exception {
        Bounds.open(args);
        mostProcesses();
        lastProcess();
        lowestProcess();
        mostChannels();
        lastChannel();
        lowestChannel();
        mostBlocks();
        lowestBlock();
        mostActivations();
        mostOuts();
        turnsOfEight();
        turnsThatYield();
        turnsBehindTheEnd();
        turnsAcrossRuns();
        waitsToReceive();
        waitsToSend();
        serverWaitsToSend();
        waitsBesideOthers();
        still();
        trapsEnd();
        nilTraps();
        indexTraps();
        divisionTraps();
        lengthTraps();
        heapTraps();
        whatTakesNoRoom();
        spawned();
        Check.end();
    }

    private static void dueTrap(SealedProcesses x, int trap) {
        Bounds.due("how it is", x.process(0, 0), 5);
        Bounds.due("its trap", x.process(0, 1), trap);
    }

    /** Code that does not trap, and that ends by itself. */
    private static void fine(String code) {
        SealedProcesses x = Bounds.alone(RECORDS, code);
        Bounds.due("ends: " + code, x.run(10000) < 10000, true);
        Bounds.due("how it is: " + code, x.process(0, 0), 4);
        Bounds.due("no trap: " + code, x.process(0, 1), 0);
    }

    private static void trap(int trap, int steps, String code) {
        SealedProcesses x = Bounds.alone(RECORDS, code);
        Bounds.due("its step counts: " + code, x.run(10000), steps);
        Bounds.due("all steps: " + code, x.about(0), steps);
        Bounds.due("its steps: " + code, x.process(0, 9), steps);
        dueTrap(x, trap);
    }

    private static void mostProcesses() {
        Bounds.says("At most 12 PROCESSES at once");
        Bounds.says("8 a process too many;");
        String text = "function : none 0\n b: SPAWN 1\n JUMP b\nfunction : none 0\n b: YIELD\n JUMP b\n";
        SealedProcesses x = Bounds.booted(text, PLAIN);
        while (x.about(2) < 12 && x.process(0, 0) == 1) {
            Bounds.run(x, 1);
        }
        Bounds.due("twelve", x.about(2), 12);
        Bounds.due("the twelfth", x.process(11, 0), 1);
        Bounds.due("the first goes on", x.process(0, 0), 1);
        int before = x.process(0, 9);
        while (x.process(0, 9) < before + 2 && x.process(0, 0) == 1) {
            Bounds.run(x, 1);
        }
        dueTrap(x, 8);
        Bounds.due("eleven stay", x.about(2), 11);
        Bounds.due("no number 12", x.process(12, 0), Check.NONE);
        // Six of a manifest and six more; one that is over makes place.
        x = Bounds.booted("function : none 0\n" + " SPAWN 1\n".repeat(6)
            + " YIELD\n SPAWN 1\n EXIT\nfunction : none 0\n b: YIELD\n JUMP b\nfunction : none 0\n YIELD\n EXIT\n",
            PLAIN, Asm.process(0, 1, 1), Asm.process(0, 1, 1), Asm.process(0, 1, 1), Asm.process(0, 1, 1),
            Asm.process(0, 2, 1));
        Bounds.run(x, 6);
        Bounds.due("twelve", x.about(2), 12);
        Bounds.run(x, 1 + 11);
        Bounds.due("the sixth goes on", x.process(5, 0), 1);
        Bounds.run(x, 1);
        dueTrap(x, 8);
    }

    private static void lastProcess() {
        Bounds.says("TURNS: from process 0 on, by number, round and round");
        String spawns = "function : none 0\n" + " SPAWN 1\n".repeat(11) + " b: PUSH 0\n OUT\n YIELD\n JUMP b\n"
            + "function : none 0\n b: PUSH 1\n OUT\n YIELD\n JUMP b\n";
        SealedProcesses x = Bounds.booted(spawns, PLAIN);
        // Eight SPAWNs, a turn of eight children, then three SPAWNs and two steps, and so on.
        Bounds.run(x, 8 + 3 * 8 + 6 + 4 * 8 + 3 * 3);
        for (int p = 0; p < 12; p++) {
            Bounds.due("steps of " + p, x.process(p, 9), p == 0 ? 14 : p < 9 ? 7 : 3);
        }
        Bounds.due("OUTs", x.about(6), 8 + 1 + 8 + 3);
        for (int i = 0; i < 20; i++) {
            Bounds.due("whose OUT " + i, x.output(i, 0), i < 8 ? i + 1 : i - 8);
        }
        Bounds.run(x, 1);
        Bounds.due("then the first again", x.process(0, 9), 15);
        // Eleven that wait, and one that goes on: each is looked at ahead of each step.
        String waits = "contract\n state client none>0\nfunction : none 0\n" + " SPAWN 1\n".repeat(11)
            + " b: YIELD\n JUMP b\nfunction : none 1\n CHANNEL 0\n RECEIVE r\n r: EXIT\n";
        x = Bounds.booted(waits, PLAIN);
        Bounds.run(x, 10000);
        Bounds.run(x, 10000);
        Bounds.due("steps of the one", x.process(0, 9), 20000 - 11);
        for (int p = 1; p < 12; p++) {
            Bounds.due("waits", x.process(p, 0), 2);
            Bounds.due("its steps", x.process(p, 9), 1);
        }
    }

    private static void lowestProcess() {
        Bounds.says("(a new one gets the lowest number that has none, or one that is over)");
        String text = "function : none 0\n b: YIELD\n SPAWN 1\n JUMP b\nfunction : none 1\n b: YIELD\n JUMP b\n"
            + "function : none 0\n EXIT\nfunction : none 0\n NIL\n LENGTH\n";
        SealedProcesses x = Bounds.booted(text, Asm.process(0, 0, 2), Asm.process(0, 1, 1), Asm.process(0, 3, 1),
            Asm.process(0, 2, 1), Asm.process(0, 1, 1));
        Bounds.run(x, 1 + 1 + 2 + 1 + 1);
        Bounds.due("over by a trap", x.process(2, 0), 5);
        Bounds.due("over", x.process(3, 0), 4);
        Bounds.run(x, 1);
        Bounds.dueAll("the first that is over", Probe.process(x, 2), 1, 0, 0, 1, 0, 1, 0, 0, 32, 0);
        Bounds.due("the second is over still", x.process(3, 0), 4);
        Bounds.run(x, 2 + 5 + 1);
        Bounds.dueAll("the second that is over", Probe.process(x, 3), 1, 0, 0, 1, 0, 1, 0, 0, 32, 0);
        Bounds.due("none has had number 5", x.process(5, 0), Check.NONE);
        Bounds.run(x, 2 + 7 + 1);
        Bounds.dueAll("the lowest that has none", Probe.process(x, 5), 1, 0, 0, 1, 0, 1, 0, 0, 32, 0);
        Bounds.due("none has had number 6", x.process(6, 0), Check.NONE);
    }

    private static final String CONTRACT = "contract\n state client none>1\n state nobody\n";

    private static void mostChannels() {
        Bounds.says("12 CHANNELS (lowest free number)");
        Bounds.says("7 a channel too many;");
        String calls = "function : none 2\n CHANNEL 0\n CALL 0\n EXIT\n";
        SealedProcesses x = Bounds.booted(CONTRACT + calls, PLAIN);
        Bounds.run(x, 2 * 12);
        Bounds.due("twelve", x.about(3), 12);
        Bounds.dueAll("the twelfth, client's", Probe.end(x, 11, 0), 0, 0, 0);
        Bounds.dueAll("the twelfth, server's", Probe.end(x, 11, 1), 0, 0, 0);
        Bounds.due("goes on", x.process(0, 0), 1);
        Bounds.run(x, 1);
        dueTrap(x, 7);
        Bounds.due("all are closed", x.about(3), 0);
        // Those of a manifest count.
        String ends = "5.0.0.0 5.0.0.0 5.0.0.0 5.0.0.0";
        x = Bounds.booted(CONTRACT + "function " + ends + " : none 4\n b: YIELD\n JUMP b\nfunction "
            + ends.replace("0.0.0", "0.0.1") + " : none 4\n b: YIELD\n JUMP b\nfunction : none 0\n CHANNEL 0\n"
            + " CHANNEL 0\n CHANNEL 0\n CHANNEL 0\n YIELD\n CHANNEL 0\n EXIT\n",
            Asm.process(0, 2, 1), Asm.process(0, 0, 1, 0, 1, 2, 3), Asm.process(0, 1, 1, 0, 1, 2, 3),
            Asm.process(0, 0, 1, 4, 5, 6, 7), Asm.process(0, 1, 1, 4, 5, 6, 7));
        Bounds.run(x, 4);
        Bounds.due("twelve", x.about(3), 12);
        Bounds.due("the last", x.value(0, 0, 7), 23);
        Bounds.run(x, 1 + 4 + 1);
        dueTrap(x, 7);
        Bounds.due("eight stay", x.about(3), 8);
    }

    private static void lastChannel() {
        // All twelve channels, four messages on each end of the last.
        String text = """
            contract
              state client 0>0 none>1
              state server 0>1 none>2
              state nobody
            function 0 : none 4
              CHANNEL 0
              STORE 1
              STORE 2
              LOAD 0
              ZERO s
              LOAD 0
              PUSH 1
              SUB
              CALL 0
              EXIT
              s: LOAD 2
              PUSH 11
              SEND 0
              PUSH 12
              SEND 0
              PUSH 13
              SEND 0
              SEND 1
              STORE 2
              LOAD 1
              a: RECEIVE b c
              b: OUT
              JUMP a
              c: PUSH 21
              SEND 0
              PUSH 22
              SEND 0
              PUSH 23
              SEND 0
              SEND 1
              CLOSE
              LOAD 2
              d: RECEIVE e f
              e: OUT
              JUMP d
              f: CLOSE
              EXIT
            """;
        SealedProcesses x = Bounds.booted(text, Asm.process(0, 0, 1, 0, 0, 0, 11));
        Bounds.run(x, 11 * 9 + 5 + 9);
        Bounds.due("twelve", x.about(3), 12);
        Bounds.dueAll("the last server's", Probe.end(x, 11, 1), 0, 0, 4);
        Bounds.dueAll("the last client's", Probe.end(x, 11, 0), 1, 0, 0);
        x.run(10000);
        Bounds.due("over", x.process(0, 0), 4);
        int[] outs = {11, 12, 13, 21, 22, 23};
        Bounds.due("OUTs", x.about(6), 6);
        for (int i = 0; i < 6; i++) {
            Bounds.due("OUT " + i, x.output(i, 1), outs[i]);
        }
    }

    private static void lowestChannel() {
        Bounds.says("A channel without ends is free.");
        String text = CONTRACT + """
            function : none 4
              CHANNEL 0
              STORE 0
              SEND 0
              CHANNEL 0
              STORE 1
              STORE 2
              CHANNEL 0
              STORE 3
              SWAP
              CLOSE
              CHANNEL 0
              EXIT
            function : none 4
              CHANNEL 0
              STORE 0
              SEND 0
              CHANNEL 0
              STORE 1
              STORE 2
              CLOSE
              LOAD 0
              RECEIVE r
              r: CLOSE
              CHANNEL 0
              EXIT
            """;
        SealedProcesses x = Bounds.booted(text, PLAIN);
        Bounds.run(x, 10);
        Bounds.dueAll("one end is closed", Probe.end(x, 0, 0), -1, -1, -1);
        Bounds.due("the channel is there still", x.about(3), 3);
        Bounds.run(x, 1);
        Bounds.due("the next has another number", x.value(0, 0, 1), 6);
        x = Bounds.booted(text, Asm.process(0, 1, 1));
        Bounds.run(x, 10);
        Bounds.due("both are closed: it is free", x.about(3), 1);
        Bounds.dueAll("free", Probe.end(x, 0, 1), -1, -1, -1);
        Bounds.run(x, 1);
        Bounds.due("the next has its number", x.value(0, 0, 0), 0);
        Bounds.dueAll("in state 0", Probe.end(x, 0, 0), 0, 0, 0);
        Bounds.dueAll("with no message", Probe.end(x, 0, 1), 0, 0, 0);
    }

    private static void mostBlocks() {
        Bounds.says("BLOCKS in 256 cells, each as many as fields and 1 (lowest free number)");
        Bounds.says("6 no room for a BLOCK;");
        // 36 of seven cells are 252: four are left, for a block of three fields and not for one of four.
        String records = "record 0 0 0 0 0 0\nrecord 0 0 0\nrecord 0 0 0 0\nrecord 0\n";
        String twelve = "function : none 0\n" + " BLOCK 0\n".repeat(12);
        String code = twelve + " CALL 1\n EXIT\n" + twelve + " CALL 2\n EXIT\n" + twelve
            + " BLOCK @\n BLOCK 3\n EXIT\n";
        for (int last : new int[] {1, 2, 3}) {
            SealedProcesses x = Bounds.booted(records + code.replace("@", "" + last), PLAIN);
            Bounds.run(x, 38);
            Bounds.due("36 blocks", x.about(4), 36);
            Bounds.due("their cells", x.about(5), 252);
            Bounds.run(x, 1);
            if (last == 2) {
                dueTrap(x, 6);
                Bounds.due("all are gone", x.about(5), 0);
                Bounds.due("all are gone", x.about(4), 0);
            } else {
                Bounds.due("goes on", x.process(0, 0), 1);
                Bounds.due("cells", x.about(5), last == 1 ? 256 : 254);
                Bounds.due("fields of the last", x.block(36, 0), last == 1 ? 3 : 1);
                Bounds.run(x, 1);
                Bounds.due("trap", x.process(0, 1), last == 1 ? 6 : 0);
                Bounds.due("cells", x.about(5), last == 1 ? 0 : 256);
            }
        }
        // The smallest: 128 of two cells.
        String small = "record 0\nfunction : none 0\n" + " BLOCK 0\n".repeat(8)
            + " CALL @\n EXIT\nfunction : none 0\n BLOCK 0\n EXIT\n";
        SealedProcesses x = Bounds.booted(small.replace("@", "0"), PLAIN);
        Bounds.run(x, 15 * 9 + 8);
        Bounds.due("128 blocks", x.about(4), 128);
        Bounds.due("256 cells", x.about(5), 256);
        Bounds.due("the last of them", x.block(127, 0), 1);
        Bounds.due("no more", x.block(128, 0), Check.NONE);
        Bounds.due("goes on", x.process(0, 0), 1);
    }

    private static void lowestBlock() {
        SealedProcesses x = Bounds.alone(RECORDS,
            "BLOCK 2, STORE 0, BLOCK 1, STORE 1, BLOCK 2, STORE 2, LOAD 1, PUSH 9, SET 1, FREE, LOAD 0, PUSH 8, "
            + "SET 0, FREE, BLOCK 3, BLOCK 1, BLOCK 3, EXIT");
        Bounds.run(x, 6);
        int[] numbers = {0, 1, 2};
        for (int l = 0; l < 3; l++) {
            Bounds.due("number of block " + l, x.value(0, 1, l), numbers[l]);
        }
        Bounds.run(x, 8);
        Bounds.due("one is there", x.about(4), 1);
        Bounds.due("its cells", x.about(5), 7);
        Bounds.run(x, 3);
        int[] again = {0, 1, 3};
        for (int i = 0; i < 3; i++) {
            Bounds.due("lowest free number " + i, x.value(0, 0, i), again[i]);
        }
        Bounds.due("all 0", x.block(0, 10), 0);
        Bounds.due("all 0", x.block(1, 11), 0);
        Bounds.due("cells", x.about(5), 7 + 2 + 3 + 2);
    }

    private static void mostActivations() {
        Bounds.says("16 ACTIVATIONS of a process");
        Bounds.says("9 an activation too many;");
        String text = "function : none 0\n PUSH 15\n CALL 1\n PUSH @\n CALL 1\n EXIT\nfunction 0 : none 1\n LOAD 0\n"
            + " PUSH 1\n SUB\n DUP\n ZERO e\n CALL 1\n RETURN\n e: POP\n RETURN\n";
        SealedProcesses x = Bounds.booted(text.replace("@", "15"), PLAIN);
        // PUSH and CALL; then six steps of each from the second to the fifteenth.
        Bounds.run(x, 2 + 14 * 6);
        Bounds.due("sixteen", x.process(0, 5), 16);
        Bounds.due("goes on", x.process(0, 0), 1);
        SealedProcesses y = Bounds.booted(text.replace("@", "15"), PLAIN, PLAIN);
        y.run(10000);
        for (int p = 0; p < 2; p++) {
            Bounds.due("sixteen of each, and again", y.process(p, 0), 4);
        }
        y = Bounds.booted(text.replace("@", "16"), PLAIN);
        y.run(10000);
        dueTrap(y, 9);
        y = Bounds.booted("function : none 0\n CALL 0\n EXIT\n", PLAIN);
        Bounds.run(y, 15);
        Bounds.due("the sixteenth", y.process(0, 5), 16);
        Bounds.run(y, 1);
        dueTrap(y, 9);
    }

    private static void mostOuts() {
        Bounds.says("500 OUTs.");
        Bounds.says("10 an OUT too many.");
        String text = "function : none 0\n b: PUSH 3\n OUT\n JUMP b\n";
        SealedProcesses x = Bounds.booted(text, PLAIN);
        Bounds.run(x, 3 * 499 + 2);
        Bounds.due("five hundred", x.about(6), 500);
        Bounds.due("the last", x.output(499, 1), 3);
        Bounds.due("goes on", x.process(0, 0), 1);
        Bounds.run(x, 2);
        Bounds.due("goes on", x.process(0, 0), 1);
        Bounds.run(x, 1);
        dueTrap(x, 10);
        Bounds.due("no more", x.about(6), 500);
        Bounds.due("no more", x.output(500, 0), Check.NONE);
        // They are of all processes together.
        x = Bounds.booted(text, PLAIN, PLAIN);
        x.run(10000);
        Bounds.due("of two", x.about(6), 500);
        Bounds.due("both are over", x.process(0, 1) + x.process(1, 1), 20);
        Bounds.due("boot again", Check.boot(x, PLAIN), 1);
        Bounds.run(x, 2);
        Bounds.due("counted anew", x.about(6), 1);
    }

    private static final String BUSY = "function : none 0\n b: PUSH 1\n POP\n JUMP b\n";

    private static void dueSteps(SealedProcesses x, int... steps) {
        for (int p = 0; p < steps.length; p++) {
            Bounds.due("steps of " + p + " of " + x.about(0), x.process(p, 9), steps[p]);
        }
    }

    private static void turnsOfEight() {
        Bounds.says("TURNS: from process 0 on, by number, round and round: one that is not over does instructions, "
            + "each a STEP, till it did 8, or a YIELD, or is over;");
        SealedProcesses x = Bounds.booted(BUSY, PLAIN, PLAIN, PLAIN);
        Bounds.run(x, 8);
        dueSteps(x, 8, 0, 0);
        Bounds.run(x, 1);
        dueSteps(x, 8, 1, 0);
        Bounds.run(x, 7);
        dueSteps(x, 8, 8, 0);
        Bounds.run(x, 9);
        dueSteps(x, 9, 8, 8);
        Bounds.run(x, 8);
        dueSteps(x, 16, 9, 8);
        // A turn that was begun ahead of a boot is over.
        Bounds.run(x, 3);
        Bounds.due("boot", Check.boot(x, PLAIN, PLAIN), 2);
        Bounds.run(x, 5);
        Bounds.due("boot", Check.boot(x, PLAIN, PLAIN), 2);
        Bounds.run(x, 8);
        dueSteps(x, 8, 0);
        Bounds.run(x, 1);
        dueSteps(x, 8, 1);
    }

    private static void turnsThatYield() {
        String lazy = "function : none 0\n b: PUSH 1\n POP\n YIELD\n JUMP b\n";
        SealedProcesses x = Bounds.booted(BUSY + lazy, Asm.process(0, 1, 1), PLAIN);
        Bounds.run(x, 3);
        dueSteps(x, 3, 0);
        Bounds.run(x, 1);
        dueSteps(x, 3, 1);
        Bounds.run(x, 7 + 4);
        dueSteps(x, 7, 8);
        Bounds.run(x, 1);
        dueSteps(x, 7, 9);
        // A YIELD that is the eighth step ends the turn once.
        x = Bounds.booted("function : none 0\n" + " PUSH 1\n".repeat(7) + " YIELD\n b: YIELD\n JUMP b\n", PLAIN, PLAIN);
        Bounds.run(x, 8);
        dueSteps(x, 8, 0);
        Bounds.run(x, 8);
        dueSteps(x, 8, 8);
        Bounds.run(x, 1);
        dueSteps(x, 9, 8);
    }

    private static void turnsBehindTheEnd() {
        String text = BUSY + "function : none 0\n YIELD\n EXIT\nfunction : none 0\n YIELD\n NIL\n LENGTH\n"
            + "function : none 0\n YIELD\n RETURN\n";
        SealedProcesses x = Bounds.booted(text, PLAIN, Asm.process(0, 1, 1), Asm.process(0, 2, 1),
            Asm.process(0, 3, 1), PLAIN);
        Bounds.run(x, 8 + 1 + 1 + 1 + 8);
        dueSteps(x, 8, 1, 1, 1, 8);
        Bounds.run(x, 8 + 1);
        dueSteps(x, 16, 2, 1, 1, 8);
        Bounds.run(x, 2);
        dueSteps(x, 16, 2, 3, 1, 8);
        Bounds.run(x, 1);
        dueSteps(x, 16, 2, 3, 2, 8);
        Bounds.run(x, 8 + 8 + 8);
        dueSteps(x, 24, 2, 3, 2, 24);
        int[] how = {1, 4, 5, 4, 1};
        for (int p = 0; p < 5; p++) {
            Bounds.due("how process " + p + " is", x.process(p, 0), how[p]);
        }
        Bounds.says("A process is OVER by RETURN from its first function, EXIT, or a trap.");
        x = Bounds.booted("function : none 0\n CALL 1\n RETURN\nfunction : none 0\n RETURN\n", PLAIN);
        Bounds.run(x, 2);
        Bounds.due("RETURN from the second", x.process(0, 0), 1);
        Bounds.run(x, 1);
        Bounds.due("RETURN from its first", x.process(0, 0), 4);
        x = Bounds.booted("function : none 0\n CALL 1\n RETURN\nfunction : none 0\n EXIT\n", PLAIN);
        Bounds.run(x, 2);
        Bounds.due("EXIT from the second", x.process(0, 0), 4);
    }

    private static void turnsAcrossRuns() {
        Bounds.says("(run() stops behind its last step, looks at nothing more then, and goes on there: also within a "
            + "turn.)");
        SealedProcesses x = Bounds.booted(BUSY, PLAIN, PLAIN);
        for (int step = 1; step <= 40; step++) {
            Bounds.run(x, 1);
            int rest = step % 16;
            dueSteps(x, step / 16 * 8 + Math.min(rest, 8), step / 16 * 8 + Math.max(0, rest - 8));
        }
        // What waits is not found so ahead of a step more.
        x = Bounds.booted(CHANNELED, Asm.process(0, 1, 1, 0), Asm.process(0, 2, 1, 0));
        Bounds.run(x, 1);
        Bounds.due("at its RECEIVE, not looked at", x.process(0, 0), 1);
        Bounds.run(x, 0);
        Bounds.due("a run of none looks at nothing", x.process(0, 0), 1);
        Bounds.run(x, 1);
        Bounds.due("looked at", x.process(0, 0), 2);
        dueSteps(x, 1, 1);
    }

    // Functions: 0 sends INTs for ever, 1 receives them, 2 a client that only yields, 3 a server that only yields,
    // 4 a client that sends one and yields, 5 a server that receives one, yields.
    private static final String CHANNELED = """
        contract
          state client 0>0
        function 5.0.0.0 : none 1
          LOAD 0
          b: PUSH 4
          SEND 0
          JUMP b
        function 5.0.0.1 : none 1
          LOAD 0
          r: RECEIVE b
          b: POP
          JUMP r
        function 5.0.0.0 : none 1
          b: YIELD
          JUMP b
        function 5.0.0.1 : none 1
          b: YIELD
          JUMP b
        function 5.0.0.0 : none 1
          LOAD 0
          PUSH 4
          SEND 0
          b: YIELD
          JUMP b
        function 5.0.0.1 : none 1
          LOAD 0
          YIELD
          YIELD
          YIELD
          YIELD
          RECEIVE b
          b: POP
          b2: YIELD
          JUMP b2
        """;

    private static void waitsToReceive() {
        Bounds.says("or till it WAITS: at a RECEIVE with no message for its end,");
        SealedProcesses x = Bounds.booted(CHANNELED, Asm.process(0, 1, 1, 0), Asm.process(0, 4, 1, 0));
        Bounds.run(x, 1 + 2);
        dueSteps(x, 1, 2);
        Bounds.due("waits with none", x.process(0, 0), 2);
        Bounds.run(x, 1);
        Bounds.due("one message", x.channel(0, 1, 2), 1);
        Bounds.due("as it was found", x.process(0, 0), 2);
        Bounds.run(x, 1);
        dueSteps(x, 1, 4);
        Bounds.run(x, 1);
        dueSteps(x, 2, 4);
        Bounds.due("goes on with one", x.process(0, 0), 1);
        Bounds.due("it was taken", x.channel(0, 1, 2), 0);
        Bounds.due("its load", x.value(0, 0, 1), 4);
        Bounds.run(x, 2 + 1);
        dueSteps(x, 4, 5);
        Bounds.due("waits with none again", x.process(0, 0), 2);
        Bounds.due("its next instruction", x.process(0, 4), 2);
    }

    private static void waitsToSend() {
        Bounds.says("or a SEND when four wait for the other end already: that is not done, no step, and looked at "
            + "again in its next turn.");
        SealedProcesses x = Bounds.booted(CHANNELED, Asm.process(0, 0, 1, 0), Asm.process(0, 5, 1, 0));
        // LOAD, then PUSH, SEND, JUMP: the third SEND is the ninth step, the fourth the twelfth.
        Bounds.run(x, 8 + 2);
        Bounds.due("two wait", x.channel(0, 1, 2), 2);
        Bounds.run(x, 5);
        Bounds.due("four wait", x.channel(0, 1, 2), 4);
        Bounds.due("the fourth was sent", x.process(0, 0), 1);
        Bounds.run(x, 1);
        dueSteps(x, 14, 2);
        Bounds.run(x, 1);
        dueSteps(x, 14, 3);
        Bounds.due("the fifth waits", x.process(0, 0), 3);
        Bounds.due("four wait", x.channel(0, 1, 2), 4);
        Bounds.due("its load is there", x.value(0, 0, 1), 4);
        Bounds.run(x, 1);
        dueSteps(x, 14, 4);
        Bounds.due("looked at again", x.process(0, 0), 3);
        Bounds.run(x, 1 + 3);
        dueSteps(x, 14, 8);
        Bounds.due("one was taken", x.channel(0, 1, 2), 3);
        Bounds.run(x, 1);
        dueSteps(x, 15, 8);
        Bounds.due("the fifth is sent", x.channel(0, 1, 2), 4);
        Bounds.due("goes on", x.process(0, 0), 1);
    }

    private static void serverWaitsToSend() {
        // The same of the client's end of channel 0, where the server sends.
        SealedProcesses x = Bounds.booted("""
            contract
              state server none>0
            function 5.0.0.0 : none 1
              b: YIELD
              JUMP b
            function 5.0.0.1 : none 1
              LOAD 0
              b: SEND 0
              JUMP b
            """, Asm.process(0, 0, 1, 0), Asm.process(0, 1, 1, 0));
        Bounds.run(x, 1 + 8 + 2 + 1);
        Bounds.dueAll("four wait", Probe.end(x, 0, 0), 0, 0, 4);
        Bounds.due("the fourth was sent", x.process(1, 0), 1);
        Bounds.run(x, 1 + 2);
        Bounds.due("the fifth waits", x.process(1, 0), 3);
        Bounds.dueAll("four wait", Probe.end(x, 0, 0), 0, 0, 4);
        dueSteps(x, 6, 9);
    }

    private static void waitsBesideOthers() {
        // Of three channels the second is full; the end is above an INT, alone or below its load.
        String text = """
            contract
              state client none>0 0>0
            function 0 : none 6
              CHANNEL 0
              STORE 0
              STORE 1
              CHANNEL 0
              STORE 2
              STORE 3
              CHANNEL 0
              STORE 4
              STORE 5
              PUSH 1
              PUSH 4
              LOAD 3
              LOAD 0
              PUSH 0
              POP
              STORE 0
              LOAD 1
              SEND 0
              STORE 1
              b: @
              JUMP b
            """;
        String[] sends = {"SEND 0", "PUSH 5\n SEND 1", "PUSH 0\n SEND 1", "PUSH 2\n SEND 1"};
        for (int i = 0; i < sends.length; i++) {
            SealedProcesses x = Bounds.booted(text.replace("@", sends[i]), Asm.process(0, 0, 1, 0, 0, 0, 1));
            int each = i == 0 ? 2 : 3;
            Bounds.due("steps till it waits", x.run(10000), 19 + 4 * each + (i == 0 ? 0 : 1));
            Bounds.due("waits to send", x.process(0, 0), 3);
            Bounds.dueAll("four wait", Probe.end(x, 1, 1), 0, 0, 4);
            Bounds.dueAll("one waits", Probe.end(x, 0, 1), 0, 0, 1);
            Bounds.dueAll("none waits", Probe.end(x, 2, 1), 0, 0, 0);
            Bounds.due("still", x.about(1), 1);
        }
    }

    private static void still() {
        Bounds.says("When none can go on (each was looked at once around) all is STILL.");
        SealedProcesses x = Bounds.booted(CHANNELED, Asm.process(0, 1, 1, 0), Asm.process(0, 2, 1, 0));
        Bounds.due("one goes on", x.run(10000), 10000);
        Bounds.due("not still", x.about(1), 0);
        // A sender and a receiver whose other ends do nothing: both wait.
        String text = CHANNELED + "function 5.0.0.0 5.0.0.1 : none 2\n LOAD 1\n RECEIVE r\n r: EXIT\n"
            + "function 5.0.0.1 5.0.0.0 : none 2\n LOAD 1\n b: PUSH 1\n SEND 0\n JUMP b\nfunction 5.0.0.0 5.0.0.1 : "
            + "none 2\n LOAD 1\n RECEIVE r\n r: POP\n RECEIVE s\n s: EXIT\nfunction 5.0.0.1 5.0.0.0 : none 2\n"
            + " LOAD 1\n PUSH 1\n SEND 0\n STORE 1\n LOAD 0\n RECEIVE r\n r: EXIT\n";
        x = Bounds.booted(text, Asm.process(0, 6, 1, 0, 1), Asm.process(0, 6, 1, 1, 0));
        Bounds.due("till both wait", x.run(10000), 2);
        Bounds.due("both wait", x.process(0, 0) + x.process(1, 0), 4);
        Bounds.due("still", x.about(1), 1);
        Bounds.due("two are not over", x.about(2), 2);
        Bounds.due("no more", x.run(10000), 0);
        Bounds.due("no step", x.about(0), 2);
        x = Bounds.booted(text, Asm.process(0, 8, 1, 0, 1), Asm.process(0, 9, 1, 0, 1));
        Bounds.due("one message comes", x.run(10000), 3 + 5);
        Bounds.due("still", x.about(1), 1);
        // As things are: still ahead of any look.
        x = Bounds.booted(text, Asm.process(0, 6, 1, 0, 1), Asm.process(0, 6, 1, 1, 0));
        Bounds.run(x, 1);
        Bounds.due("one goes on", x.about(1), 0);
        Bounds.run(x, 1);
        Bounds.due("none could go on", x.about(1), 1);
        Bounds.due("but was not found so", x.process(1, 0), 1);
        // When all are over none can go on.
        x = Bounds.alone("", "EXIT");
        Bounds.due("one goes on", x.about(1), 0);
        Bounds.due("one step", x.run(10000), 1);
        Bounds.due("still", x.about(1), 1);
        Bounds.due("none", x.run(1), 0);
    }

    private static void trapsEnd() {
        Bounds.says("TRAPS end a process (its step counts):");
        String head = "record 0 0 0 0 0 0\n" + CONTRACT + "function : none 1\n BLOCK 0\n CHANNEL 0\n CALL 1\n EXIT\n";
        String[] codes = {"NIL, LENGTH", "PUSH 0, ROW, PUSH 0, TAKE, EXIT", "PUSH 1, PUSH 0, DIV, EXIT",
            "PUSH -1, ROW, EXIT", "PUSH 16, ROW, EXIT", "BLOCK 0, ".repeat(9) + "CALL 1, EXIT",
            "CHANNEL 0, CALL 1, EXIT", "SPAWN 2, CALL 1, EXIT", "CALL 1, EXIT", "b: PUSH 1, OUT, JUMP b"};
        int[] steps = {2, 4, 3, 2, 2, 36 + 3, 2 * 11 + 1, 2 * 11 + 1, 15, 3 * 500 + 2};
        for (int i = 0; i < codes.length; i++) {
            SealedProcesses x = Bounds.booted(head + "function : none 0\n" + Bounds.lines(codes[i])
                + "function : none 0\n y: YIELD\n JUMP y\n", PLAIN);
            int guard = 0;
            while (x.process(0, 0) == 1 && guard++ < 100) {
                x.run(20);
            }
            Bounds.dueAll("trap " + (i + 1), Probe.process(x, 0), 5, i + 1, 0, 0, 0, 0, 0, 0, 16, 3 + steps[i]);
            Bounds.due("its channels are closed", x.about(3), 0);
            Bounds.due("its blocks go", x.about(4), 0);
            Bounds.due("no value", x.value(0, 1, 0), LEAST);
            Bounds.due("the others go on", x.about(2), i == 7 ? 11 : 0);
        }
    }

    private static void nilTraps() {
        Bounds.says("1 NIL where a node or row is needed;");
        fine("NEW 0, GET 0, POP, EXIT");
        trap(1, 2, "NIL, GET 0");
        trap(1, 3, "NEW 0, GET 1, GET 0, EXIT");
        fine("NEW 0, PUSH 1, PUT 0, EXIT");
        trap(1, 3, "NIL, PUSH 1, PUT 0");
        fine("PUSH 0, ROW, LENGTH, EXIT");
        trap(1, 2, "NIL, LENGTH");
        fine("PUSH 1, ROW, PUSH 0, TAKE, EXIT");
        trap(1, 3, "NIL, PUSH 0, TAKE");
        fine("PUSH 1, ROW, PUSH 0, PUSH 5, LAY, EXIT");
        trap(1, 4, "NIL, PUSH 0, PUSH 5, LAY");
        fine("NIL, NONE, OUT, EXIT");
        // NIL is met ahead of an index that is none.
        trap(1, 3, "NIL, PUSH -1, TAKE");
        trap(1, 4, "NIL, PUSH 9, PUSH 5, LAY");
        trap(1, 5, "PUSH 1, ROWS 0, PUSH 0, TAKE, GET 0, EXIT");
    }

    private static void indexTraps() {
        Bounds.says("2 an index that is none (0 to length less 1);");
        for (String row : new String[] {"ROW", "ROWS 0"}) {
            String value = row.equals("ROW") ? "PUSH 7" : "NIL";
            for (int length : new int[] {0, 1, 2, 15}) {
                for (int i : new int[] {LEAST, -1, 0, length - 1, length, length + 1, 16, MOST}) {
                    String take = "PUSH " + length + ", " + row + ", PUSH " + i + ", TAKE, EXIT";
                    String lay = "PUSH " + length + ", " + row + ", PUSH " + i + ", " + value + ", LAY, EXIT";
                    if (i >= 0 && i < length) {
                        fine(take);
                        fine(lay);
                    } else {
                        trap(2, 4, take);
                        trap(2, 5, lay);
                    }
                }
            }
        }
    }

    private static void divisionTraps() {
        Bounds.says("3 DIV, REM by 0;");
        for (String op : new String[] {"DIV", "REM"}) {
            for (int a : new int[] {LEAST, -1, 0, 1, MOST}) {
                for (int b : new int[] {-1, 0, 1}) {
                    String code = "PUSH " + a + ", PUSH " + b + ", " + op + ", EXIT";
                    if (b == 0) {
                        trap(3, 3, code);
                    } else {
                        fine(code);
                    }
                }
            }
        }
    }

    private static void lengthTraps() {
        Bounds.says("4 a ROW of less than 0;");
        for (String row : new String[] {"ROW", "ROWS 0"}) {
            fine("PUSH 0, " + row + ", LENGTH, OUT, EXIT");
            trap(4, 2, "PUSH -1, " + row + ", EXIT");
            trap(4, 2, "PUSH " + LEAST + ", " + row + ", EXIT");
        }
    }

    private static void heapTraps() {
        Bounds.says("a node takes as many cells as fields and 1, a row as items and 1: no room, when all that its "
            + "stack, locals");
        Bounds.says("reach, and what is asked, are more than its heap has");
        // The heap has sixteen cells.
        for (String row : new String[] {"ROW", "ROWS 0"}) {
            fine("PUSH 15, " + row + ", LENGTH, OUT, EXIT");
            trap(5, 2, "PUSH 16, " + row + ", EXIT");
            for (int much : new int[] {17, 1024, 4095, 4096, 65536, MOST}) {
                trap(5, 2, "PUSH " + much + ", " + row + ", EXIT");
            }
            fine("PUSH 14, " + row + ", PUSH 0, " + row + ", EXIT");
            trap(5, 4, "PUSH 15, " + row + ", PUSH 0, " + row + ", EXIT");
        }
        fine("PUSH 12, ROW, NEW 0, EXIT");
        trap(5, 3, "PUSH 13, ROW, NEW 0, EXIT");
        fine("PUSH 8, ROW, NEW 2, EXIT");
        trap(5, 3, "PUSH 9, ROW, NEW 2, EXIT");
        // In locals, and in those of an activation below.
        fine("PUSH 8, ROW, STORE 3, NEW 2, STORE 0, EXIT");
        trap(5, 4, "PUSH 9, ROW, STORE 3, NEW 2, EXIT");
        for (int below = 8; below <= 9; below++) {
            for (String keep : new String[] {" STORE 9\n", ""}) {
                SealedProcesses x = Bounds.booted("record 0 0 0 0 0 0\nfunction : none 10\n PUSH " + below
                    + "\n ROW\n" + keep
                    + " CALL 1\n EXIT\nfunction : none 0\n NEW 0\n EXIT\n", PLAIN);
                x.run(100);
                Bounds.due("a row of " + below + " below", x.process(0, 1), below == 8 ? 0 : 5);
            }
        }
        // In each of sixteen activations a row of none, on the stack; the last asks for one more.
        SealedProcesses deep = Bounds.booted("function : none 0\n PUSH 0\n ROW\n CALL 0\n EXIT\n", PLAIN);
        Bounds.run(deep, 3 * 15 + 2);
        Bounds.due("sixteen cells", deep.process(0, 7), 16);
        Bounds.due("sixteen activations", deep.process(0, 5), 16);
        for (int first : new int[] {0, 1}) {
            SealedProcesses x = Bounds.booted("function : none 0\n CALL 2\n EXIT\n"
                + "function : none 0\n PUSH 0\n ROW\n CALL 2\n EXIT\n"
                + "function : none 1\n PUSH 0\n ROW\n CALL 3\n EXIT\n"
                + "function : none 0\n PUSH 0\n ROW\n DUP\n POP\n PUSH 13\n ROW\n EXIT\n", Asm.process(0, first, 1));
            x.run(100);
            Bounds.due("cells of " + first + " below", x.process(0, 1), first == 0 ? 0 : 5);
        }
        // The largest heap.
        String text = "function 0 : none 1\n LOAD 0\n ROW\n EXIT\n";
        for (int length : new int[] {1023, 1024}) {
            SealedProcesses x = Bounds.booted(text, Asm.process(0, 0, 64, 0, 0, length >> 8, length & 255));
            Bounds.run(x, 2);
            Bounds.due("a row of " + length, x.process(0, 1), length == 1023 ? 0 : 5);
            Bounds.due("cells that it reaches", x.process(0, 7), length == 1023 ? 1024 : 0);
        }
        Bounds.says("of the instruction's own what it took is no longer there");
        // The INT that is taken is none of the cells; a row on the stack that is popped first is.
        fine("PUSH 15, ROW, LENGTH, ROW, EXIT");
        fine("PUSH 15, ROW, PUSH 0, TAKE, ROW, EXIT");
    }

    private static void whatTakesNoRoom() {
        Bounds.says("(what is not reached takes no room)");
        fine("PUSH 15, ROW, POP, PUSH 15, ROW, EXIT");
        trap(5, 4, "PUSH 15, ROW, PUSH 15, ROW, EXIT");
        fine("PUSH 15, ROW, STORE 0, NIL, STORE 0, PUSH 15, ROW, EXIT");
        trap(5, 5, "PUSH 15, ROW, STORE 0, PUSH 15, ROW, EXIT");
        fine("NEW 0, NEW 0, PUT 1, PUSH 15, ROW, EXIT");
        // A row of rows is reached through its node; behind NIL in its place it is not.
        fine("NEW 0, DUP, NEW 0, PUT 1, PUSH 9, ROW, EXIT");
        trap(5, 6, "NEW 0, DUP, NEW 0, PUT 1, PUSH 10, ROW, EXIT");
        fine("NEW 0, DUP, NEW 0, PUT 1, DUP, NIL, PUT 1, PUSH 12, ROW, EXIT");
        trap(5, 9, "NEW 0, DUP, NEW 0, PUT 1, DUP, NIL, PUT 1, PUSH 13, ROW, EXIT");
        fine("PUSH 2, ROWS 0, DUP, PUSH 1, NEW 0, LAY, PUSH 9, ROW, EXIT");
        trap(5, 8, "PUSH 2, ROWS 0, DUP, PUSH 1, NEW 0, LAY, PUSH 10, ROW, EXIT");
        // What is reached twice takes its room once; a ring takes none when nothing reaches it.
        fine("PUSH 7, ROW, DUP, STORE 0, PUSH 7, ROW, EXIT");
        trap(5, 6, "PUSH 7, ROW, DUP, STORE 0, PUSH 8, ROW, EXIT");
        fine("NEW 0, DUP, DUP, PUT 1, POP, PUSH 15, ROW, EXIT");
        trap(5, 6, "NEW 0, DUP, DUP, PUT 1, PUSH 13, ROW, EXIT");
        // However far it is reached: five nodes, each with the next, are fifteen cells; 93 steps make them.
        String list = "PUSH 5, STORE 1, NIL, STORE 0, m: NEW 0, DUP, LOAD 1, PUT 0, DUP, LOAD 0, PUT 1, STORE 0, "
            + "PUSH 0, ROW, POP, LOAD 1, PUSH 1, SUB, DUP, STORE 1, ZERO e, JUMP m, e: ";
        fine(list + "PUSH 0, ROW, EXIT");
        trap(5, 93 + 2, list + "PUSH 1, ROW, EXIT");
        SealedProcesses y = Bounds.alone(RECORDS, list + "PUSH 0, ROW, POP, LOAD 0, GET 1, GET 1, GET 1, GET 1, GET 0, "
            + "OUT, LOAD 0, GET 0, OUT, YIELD, EXIT");
        Bounds.run(y, 93 + 14);
        Bounds.due("the last of five", y.output(0, 1), 5);
        Bounds.due("the first of five", y.output(1, 1), 1);
        Bounds.due("their cells", y.process(0, 7), 15);
        // Again and again, with all the room there is.
        SealedProcesses z = Bounds.alone("",
            "b: PUSH 6, ROW, STORE 0, PUSH 8, ROW, STORE 1, NIL, STORE 0, NIL, STORE 1, "
            + "PUSH 15, ROW, STORE 2, NIL, STORE 2, JUMP b");
        Bounds.run(z, 5000);
        Bounds.due("goes on", z.process(0, 0), 1);
        // Behind a RETURN what it had is not reached.
        SealedProcesses x = Bounds.booted("function : none 0\n CALL 1\n PUSH 15\n ROW\n EXIT\nfunction : none 1\n"
            + " PUSH 15\n ROW\n STORE 0\n RETURN\n", PLAIN);
        x.run(100);
        Bounds.due("behind a RETURN", x.process(0, 0), 4);
    }

    private static void spawned() {
        Bounds.says("(A process that was spawned has a heap of its parent's size; it is run from the next time on "
            + "that its number comes.)");
        String text = "function : none 0\n SPAWN 1\n b: YIELD\n JUMP b\nfunction : none 0\n PUSH 47\n ROW\n EXIT\n"
            + "function : none 0\n EXIT\nfunction : none 0\n SPAWN 4\n b: YIELD\n JUMP b\nfunction : none 0\n"
            + " PUSH 48\n ROW\n EXIT\n";
        for (int first : new int[] {0, 3}) {
            // A number behind its parent's comes in the same round.
            SealedProcesses x = Bounds.booted(text, Asm.process(0, first, 3));
            Bounds.run(x, 2);
            Bounds.dueAll("no step yet", Probe.process(x, 1), 1, 0, 0, first + 1, 0, 1, 0, 0, 48, 0);
            Bounds.run(x, 2);
            Bounds.due("then its turn", x.process(1, 9), 2);
            Bounds.due("47 fit, 48 do not", x.process(1, 1), first == 0 ? 0 : 5);
            // One ahead of it comes in the next round.
            x = Bounds.booted(text, Asm.process(0, 2, 1), Asm.process(0, first, 3), Asm.process(0, 0, 1));
            Bounds.run(x, 1 + 2);
            Bounds.due("its number again", x.process(0, 9), 0);
            Bounds.run(x, 2);
            Bounds.due("not before its number comes", x.process(0, 9), 0);
            Bounds.due("the third came first", x.process(2, 9), 2);
            Bounds.run(x, 2);
            Bounds.due("the third's own child", x.process(3, 9), 2);
            Bounds.due("its heap is the third's", x.process(3, 1), 5);
            Bounds.run(x, 1);
            Bounds.due("then its turn", x.process(0, 9), 1);
        }
    }
}
