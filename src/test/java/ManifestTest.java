/** Promise 8: boot, and the faults of manifests. */
public final class ManifestTest {
    // Functions: 0 plain, 1 an INT, 2 client's end, 3 server's end, 4 with a result, 5 a node, 6 a block,
    // 7 an end in state 1, 8 both ends, 9 an INT and both ends.
    private static final String MODULE = """
        record 0
        contract
          state client 0>1
          state nobody
        contract
          state client none>0
        function : none 0
          b: YIELD
          JUMP b
        function 0 : none 1
          LOAD 0
          OUT
          EXIT
        function 5.0.0.0 : none 1
          b: YIELD
          JUMP b
        function 5.0.0.1 : none 1
          b: YIELD
          JUMP b
        function : 0 0
          PUSH 1
          RETURN
        function 1.0 : none 1
          RETURN
        function 4.0 : none 1
          EXIT
        function 5.0.1.0 : none 1
          EXIT
        function 5.0.0.0 5.1.0.1 : none 2
          b: YIELD
          JUMP b
        function 0 5.0.0.1 5.1.0.0 : none 3
          b: YIELD
          JUMP b
        """;

    public static void main(String[] args) {
        form();
        modulesAndFunctions();
        numbers();
        alikeContracts();
        whatIsBooted();
        whatStays();
        Check.end();
    }

    private static void fault(String what, int kind, int place, int... bytes) {
        SealedProcesses x = Check.withModule(MODULE);
        Check.due(what + ": boot", Check.bootBytes(x, bytes), Check.NONE);
        Check.dueFault(what, x, kind, place);
        Check.due(what + ": nothing is booted", x.about(0), Check.NONE);
    }

    private static SealedProcesses good(String what, int... bytes) {
        SealedProcesses x = Check.withModule(MODULE);
        Check.due(what + ": boot", Check.bootBytes(x, bytes), bytes[2]);
        Check.dueFault(what, x, 0, Check.NONE);
        return x;
    }

    private static void form() {
        fault("nothing", 1, 0);
        fault("a module", 1, 1, 83, 77, 1, 0, 0, 1);
        fault("no 83", 1, 0, 70, 83);
        fault("no process", 1, 2, 83, 70, 0);
        fault("seven processes", 1, 2, 83, 70, 7);
        fault("no S", 1, 5, 83, 70, 1, 0, 0, 0);
        fault("S above 64", 1, 5, 83, 70, 1, 0, 0, 65);
        fault("a byte more", 1, 6, 83, 70, 1, 0, 0, 1, 0);
        fault("a number above 7", 1, 6, 83, 70, 1, 0, 2, 1, 8);
        int[] bytes = {83, 70, 2, 0, 1, 1, 1, 2, 3, 4, 0, 0, 64};
        for (int n = 0; n < bytes.length; n++) {
            fault("cut at " + n, 1, n, java.util.Arrays.copyOf(bytes, n));
        }
        good("whole", bytes);
        good("six", 83, 70, 6, 0, 0, 1, 0, 0, 1, 0, 0, 1, 0, 0, 1, 0, 0, 1, 0, 0, 64);
    }

    private static void modulesAndFunctions() {
        fault("module 1", 3, 3, 83, 70, 1, 1, 0, 1);
        fault("module 6", 3, 3, 83, 70, 1, 6, 99, 0);
        fault("module 255", 3, 6, 83, 70, 2, 0, 0, 1, 255);
        fault("function 10", 4, 4, 83, 70, 1, 0, 10, 0);
        fault("a result", 4, 4, 83, 70, 1, 0, 4, 1);
        fault("a node", 4, 4, 83, 70, 1, 0, 5, 1);
        fault("a block", 4, 4, 83, 70, 1, 0, 6, 1);
        fault("state 1", 4, 4, 83, 70, 1, 0, 7, 1);
        fault("the second process", 4, 7, 83, 70, 2, 0, 0, 1, 0, 5, 1);
        fault("the first from the left", 1, 5, 83, 70, 2, 0, 0, 0, 6, 0, 1);
    }

    private static void numbers() {
        fault("used once", 6, 7, 83, 70, 1, 0, 2, 1, 3);
        fault("a byte more, and used once", 1, 7, 83, 70, 1, 0, 2, 1, 3, 0);
        fault("the same side", 5, 10, 83, 70, 2, 0, 2, 1, 3, 0, 2, 1, 3);
        fault("three times", 5, 14, 83, 70, 3, 0, 2, 1, 3, 0, 3, 1, 3, 0, 3, 1, 3);
        fault("three times", 5, 14, 83, 70, 3, 0, 2, 1, 3, 0, 3, 1, 3, 0, 2, 1, 3);
        fault("another contract", 5, 11, 83, 70, 2, 0, 3, 1, 0, 0, 8, 1, 1, 1);
        fault("contracts that are unlike", 5, 7, 83, 70, 1, 0, 8, 1, 0, 0);
        fault("both of one process, once more", 6, 12, 83, 70, 2, 0, 8, 1, 0, 1, 0, 2, 1, 5);
        good("a pair", 83, 70, 2, 0, 2, 1, 7, 0, 3, 1, 7);
        good("a pair, the server first", 83, 70, 2, 0, 3, 1, 7, 0, 2, 1, 7);
        good("two pairs", 83, 70, 2, 0, 8, 1, 0, 1, 0, 9, 1, 0, 0, 0, 0, 0, 1);
    }

    /** Loads two modules, each with such contracts; whether a channel between their contracts 0 can be. */
    private static boolean isAlike(String client, String server) {
        SealedProcesses x = new SealedProcesses();
        Check.due("client's module " + client, Check.load(x, client + """

            function 5.0.0.0 : none 1
              EXIT
            """), 0);
        Check.due("server's module " + server, Check.load(x, server + """

            function 5.0.0.1 : none 1
              EXIT
            """), 1);
        int booted = Check.bootBytes(x, new int[] {83, 70, 2, 0, 0, 1, 0, 1, 0, 1, 0});
        Check.dueFault("alike", x, booted == 2 ? 0 : 5, booted == 2 ? Check.NONE : 10);
        int back = Check.bootBytes(x, new int[] {83, 70, 2, 1, 0, 1, 0, 0, 0, 1, 0});
        Check.due("alike both ways", back, booted);
        return booted == 2;
    }

    private static void alike(String client, String server) {
        Check.due("alike: " + client + " and " + server, isAlike(client, server), true);
        Check.due("alike: " + server + " and " + client, isAlike(server, client), true);
    }

    private static void unlike(String client, String server) {
        Check.due("unlike: " + client + " and " + server, isAlike(client, server), false);
        Check.due("unlike: " + server + " and " + client, isAlike(server, client), false);
    }

    private static void alikeContracts() {
        String plain = "contract\n state client none>0";
        alike(plain, plain);
        unlike(plain, "contract\n state server none>0");
        unlike(plain, "contract\n state client none>0\n state nobody");
        unlike(plain, "contract\n state client 0>0");
        unlike(plain, "contract\n state client none>0 none>0");
        unlike(plain, "contract\n state nobody");
        alike("contract\n state client 0>0", "contract\n state client 0>0");
        String two = "contract\n state client none>0 none>1\n state client none>0";
        unlike(two, "contract\n state client none>0 none>0\n state client none>0");
        unlike(two, "contract\n state client none>0 none>1\n state server none>0");
        // Blocks are alike by how many fields they have.
        alike("record 0 0\ncontract\n state client 4.0>0", "record 0\nrecord 0 0\ncontract\n state client 4.1>0");
        unlike("record 0 0\ncontract\n state client 4.0>0", "record 0\ncontract\n state client 4.0>0");
        unlike("record 0\ncontract\n state client 4.0>0", "record 0\ncontract\n state client 0>0");
        // Ends are alike by state, side and their contracts, however far.
        String self = "contract\n state client 5.0.0.1>0";
        alike(self, self);
        unlike(self, "contract\n state client 5.0.0.0>0");
        alike(self, "contract\n state client 5.1.0.1>0\ncontract\n state client 5.0.0.1>0");
        unlike(self, "contract\n state client 5.1.0.1>0\ncontract\n state client 5.0.0.0>0");
        unlike(self, "contract\n state client 5.1.0.1>0\ncontract\n state client 0>0");
        String long0 = "contract\n state client 5.1.0.0>0\ncontract\n state client 5.2.0.0>0\n";
        alike(long0 + "contract\n state client 5.3.0.0>0\ncontract\n state server none>0",
            "contract\n state client 5.3.0.0>0\ncontract\n state server none>0\ncontract\n state client 5.1.0.0>0\n"
            + "contract\n state client 5.2.0.0>0");
        unlike(long0 + "contract\n state client 5.3.0.0>0\ncontract\n state server none>0",
            long0 + "contract\n state client 5.3.0.0>0\ncontract\n state server 0>0");
        String states = "contract\n state client 5.1.1.0>0\ncontract\n state client none>0\n state nobody";
        alike(states, states);
        unlike(states, "contract\n state client 5.1.0.0>0\ncontract\n state client none>0\n state nobody");
    }

    private static void whatIsBooted() {
        SealedProcesses x = good("two pairs", 83, 70, 3, 0, 9, 1, 255, 255, 255, 254, 5, 2, 0, 8, 3, 5, 2, 0, 0, 64);
        int[][] want = {{1, 0, 0, 9, 0, 1, 0, 0, 16, 0}, {1, 0, 0, 8, 0, 1, 0, 0, 48, 0},
            {1, 0, 0, 0, 0, 1, 0, 0, 1024, 0}};
        for (int p = 0; p < 3; p++) {
            for (int what = 0; what < 10; what++) {
                Check.due("process " + p + " " + what, x.process(p, what), want[p][what]);
            }
        }
        Check.due("no more", x.process(3, 0), Check.NONE);
        Check.due("no more", x.process(-1, 0), Check.NONE);
        Check.due("no more", x.process(12, 0), Check.NONE);
        // Number 5 was used first: it is channel 0.
        Check.due("an INT", x.value(0, 1, 0), -2);
        Check.due("server's end", x.value(0, 1, 1), 1);
        Check.due("client's end", x.value(0, 1, 2), 2);
        Check.due("client's end", x.value(1, 1, 0), 0);
        Check.due("server's end", x.value(1, 1, 1), 3);
        int[] owners = {1, 0, 0, 1};
        for (int end = 0; end < 4; end++) {
            Check.due("state", x.channel(end / 2, end % 2, 0), 0);
            Check.due("owner", x.channel(end / 2, end % 2, 1), owners[end]);
            Check.due("waiting", x.channel(end / 2, end % 2, 2), 0);
        }
        SealedProcesses y = good("number 0 second", 83, 70, 2, 0, 8, 1, 7, 0, 0, 9, 1, 0, 0, 0, 1, 7, 0);
        Check.due("channel 0 of number 7", y.value(0, 1, 0), 0);
        Check.due("channel 1 of number 0", y.value(0, 1, 1), 3);
        Check.due("channel 1 of number 0", y.value(1, 1, 2), 2);
        int[] about = {0, 0, 3, 2, 0, 0, 0};
        for (int what = 0; what < 7; what++) {
            Check.due("about " + what, x.about(what), about[what]);
        }
        Check.due("run none", x.run(0), 0);
    }

    private static void whatStays() {
        SealedProcesses x = Check.withModule(MODULE);
        Check.boot(x, Asm.process(0, 1, 1, 0, 0, 0, 9), Asm.process(0, 0, 1));
        Check.due("run", x.run(6), 6);
        Check.due("put out", x.output(0, 1), 9);
        Check.due("a wrong one", Check.boot(x, Asm.process(0, 0, 0)), Check.NONE);
        Check.dueFault("a wrong one", x, 1, 5);
        Check.due("what runs stays", x.about(0), 6);
        Check.due("what runs stays", x.about(6), 1);
        Check.due("refused", x.boot(1), -2);
        Check.due("refused", x.boot(-1), -2);
        Check.dueFault("refused", x, 1, 5);
        // What runs keeps its module, but a manifest finds only what is on the shelf.
        Check.due("discard", x.discard(0), true);
        Check.due("run on", x.run(5), 5);
        Check.due("its place", x.process(1, 2), 0);
        Check.due("not there", Check.boot(x, Asm.process(0, 0, 1)), Check.NONE);
        Check.dueFault("not there", x, 3, 3);
        Check.due("runs still", x.run(3), 3);
        Check.due("load", Check.load(x, "function : none 0\n EXIT"), 0);
        Check.due("another on its place", x.run(3), 3);
        // All that ran is gone.
        Check.due("boot", Check.boot(x, Asm.process(0, 0, 2)), 1);
        Check.due("no steps", x.about(0), 0);
        Check.due("no OUTs", x.about(6), 0);
        Check.due("no output", x.output(0, 1), Check.NONE);
        Check.due("no second process", x.process(1, 0), Check.NONE);
        Check.due("run", x.run(10), 1);
    }
}
