import java.util.Arrays;

/** PART 2's bounds: the shelf, manifests and boot, a test for each of the document's sentences. */
public final class ManifestBoundsTest {
    private static final String LOOP = "\n b: YIELD\n JUMP b\n";
    // Functions: 0 plain, 1 four INTs, 2 the client's end, 3 the server's, 4 four client's ends, 5 four server's,
    // 6 plain, 7 plain, 8 an INT and both ends, 9 plain.
    private static final String MODULE = "contract\n state client 0>1\n state nobody\nfunction : none 0" + LOOP
        + "function 0 0 0 0 : none 4" + LOOP + "function 5.0.0.0 : none 1" + LOOP
        + "function 5.0.0.1 : none 1" + LOOP + "function 5.0.0.0 5.0.0.0 5.0.0.0 5.0.0.0 : none 4" + LOOP
        + "function 5.0.0.1 5.0.0.1 5.0.0.1 5.0.0.1 : none 4" + LOOP + "function : none 0" + LOOP
        + "function : none 0" + LOOP + "function 0 5.0.0.0 5.0.0.1 : none 3" + LOOP + "function : none 0" + LOOP;
    private static final int[] PLAIN = {0, 0, 1};

    public static void main(String[] args) throws Exception {
        Bounds.open(args);
        placesOfTheShelf();
        modulesThatRun();
        beginning();
        modules();
        functions();
        parametersOfFunctions();
        sizes();
        constants();
        numbers();
        uses();
        usedOnce();
        usedAgain();
        alike();
        alikeOfThree();
        firstFromTheLeft();
        end();
        booted();
        Check.end();
    }

    private static SealedProcesses withModule() {
        return Check.withModule(MODULE);
    }

    private static int[] manifest(int[]... processes) {
        return Asm.manifest(processes);
    }

    private static SealedProcesses taken(int... bytes) {
        SealedProcesses x = withModule();
        String what = "taken " + Arrays.toString(bytes);
        Bounds.due(what, Check.bootBytes(x, bytes), bytes[2]);
        Bounds.dueFault(what, x, 0, Check.NONE);
        Bounds.due(what + ": processes", x.about(2), bytes[2]);
        return x;
    }

    private static void refused(int kind, int place, int... bytes) {
        SealedProcesses x = withModule();
        String what = "refused " + Arrays.toString(bytes);
        Bounds.due(what, Check.bootBytes(x, bytes), Check.NONE);
        Bounds.dueFault(what, x, kind, place);
        Bounds.due(what + ": nothing is booted", x.about(2), Check.NONE);
    }

    /** Both sides of a bound: the fault is at the first byte in which they differ. */
    private static void edge(int kind, int[] good, int[] bad) {
        taken(good);
        refused(kind, Arrays.mismatch(good, bad), bad);
    }

    private static void placesOfTheShelf() {
        Bounds.says("THE SHELF has six places for modules; a module gets the lowest free one.");
        SealedProcesses x = new SealedProcesses();
        for (int m = 0; m < 6; m++) {
            Bounds.due("place " + m + " ahead", x.module(m, 0, 2), Check.NONE);
            Bounds.due("load " + m, Check.load(x, "function : none 0\n EXIT\n".repeat(m + 1)), m);
        }
        Bounds.due("a seventh", Check.load(x, "function : none 0\n EXIT\n"), Check.NONE);
        for (int m = 0; m < 6; m++) {
            Bounds.due("module " + m + " stays", x.module(m, 0, 2), m + 1);
        }
        for (int m : new int[] {5, 2, 0}) {
            Bounds.due("discard", x.discard(m), true);
        }
        for (int m : new int[] {0, 2, 5, Check.NONE}) {
            Bounds.due("the lowest free place", Check.load(x, "function : none 0\n EXIT\n".repeat(9)), m);
        }
    }

    private static void modulesThatRun() {
        Bounds.says("What runs keeps the modules that it was booted with.");
        String text = "function : none 0\n b: PUSH @\n OUT\n SPAWN 1\n YIELD\n JUMP b\nfunction : none 0\n PUSH @\n"
            + " OUT\n EXIT\n";
        SealedProcesses x = Check.withModule(text.replace("@", "7"));
        Check.boot(x, PLAIN);
        Bounds.run(x, 2);
        Bounds.due("discard", x.discard(0), true);
        Bounds.run(x, 2);
        Bounds.due("another", Check.load(x, text.replace("@", "8")), 0);
        Bounds.run(x, 40);
        Bounds.due("OUTs", x.about(6) > 10, true);
        for (int i = 0; i < x.about(6); i++) {
            Bounds.due("OUT " + i, x.output(i, 1), 7);
        }
        Check.boot(x, PLAIN);
        Bounds.run(x, 2);
        Bounds.due("OUT of the next boot", x.output(0, 1), 8);
    }

    private static void beginning() {
        Bounds.says("A MANIFEST is bytes: 83, 70, P (1 to 6), then for each process:");
        int[] one = manifest(PLAIN);
        for (int number : new int[] {0, 82, 84, 255}) {
            edge(1, one, Bounds.with(one, 0, number));
        }
        for (int number : new int[] {0, 69, 71, 77, 255}) {
            edge(1, one, Bounds.with(one, 1, number));
        }
        edge(1, one, manifest());
        edge(1, manifest(PLAIN, PLAIN, PLAIN, PLAIN, PLAIN, PLAIN),
            manifest(PLAIN, PLAIN, PLAIN, PLAIN, PLAIN, PLAIN, PLAIN));
        edge(1, one, Bounds.with(one, 2, 255));
        SealedProcesses x = taken(manifest(PLAIN, PLAIN, PLAIN, PLAIN, PLAIN, PLAIN));
        Bounds.due("the sixth", x.process(5, 0), 1);
        Bounds.due("no seventh", x.process(6, 0), Check.NONE);
    }

    private static void modules() {
        Bounds.says("3 a module that is not there;");
        int[] one = manifest(PLAIN);
        for (int m : new int[] {1, 5, 6, 7, 255}) {
            edge(3, one, Bounds.with(one, 3, m));
        }
        SealedProcesses x = new SealedProcesses();
        int[] bytes = Asm.module(MODULE);
        for (int m = 0; m < 6; m++) {
            Check.load(x, bytes);
        }
        for (int m = 0; m < 8; m++) {
            Bounds.due("module " + m + " of a full shelf", Check.boot(x, Asm.process(m, 0, 1)), m < 6 ? 1 : Check.NONE);
            Bounds.dueFault("module " + m, x, m < 6 ? 0 : 3, m < 6 ? Check.NONE : 3);
        }
        x.discard(3);
        Bounds.due("one that was discarded", Check.boot(x, Asm.process(3, 0, 1)), Check.NONE);
        Bounds.dueFault("one that was discarded", x, 3, 3);
        Bounds.due("one beside it", Check.boot(x, Asm.process(4, 0, 1)), 1);
        Bounds.due("its place", x.process(0, 2), 4);
    }

    private static void functions() {
        Bounds.says("4 a function that is not there, has a result, or a parameter that is neither INT nor an end in "
            + "state 0 (at the function's byte);");
        edge(4, manifest(Asm.process(0, 9, 1)), manifest(Asm.process(0, 10, 1)));
        edge(4, manifest(Asm.process(0, 0, 1)), manifest(Asm.process(0, 255, 1)));
        edge(4, manifest(PLAIN, PLAIN, PLAIN, PLAIN, PLAIN, Asm.process(0, 9, 1)),
            manifest(PLAIN, PLAIN, PLAIN, PLAIN, PLAIN, Asm.process(0, 10, 1)));
        SealedProcesses x = Check.withModule("function : none 0\n EXIT\n");
        Bounds.due("the only function", Check.boot(x, Asm.process(0, 0, 1)), 1);
        Bounds.due("a second one", Check.boot(x, Asm.process(0, 1, 1)), Check.NONE);
        Bounds.dueFault("a second one", x, 4, 4);
    }

    private static void parametersOfFunctions() {
        String head = "record 0\ncontract\n state client none>1\n state client none>0\n";
        String[] heads = {": none 0", "0 : none 1", "0 0 0 0 : none 4", ": 0 0", ": 1.0 0", ": 4.0 0", ": 5.0.0.0 0",
            "1.0 : none 1", "2 : none 1", "3.0 : none 1", "4.0 : none 1", "5.0.1.0 : none 1", "5.0.1.1 : none 1",
            "0 0 0 2 : none 4"};
        for (int i = 0; i < heads.length; i++) {
            SealedProcesses x = Check.withModule(head + "function " + heads[i] + "\n EXIT\n");
            int[] bytes = Asm.join(new int[] {83, 70, 1, 0, 0, 1}, new int[i < 3 ? new int[] {0, 4, 16}[i] : 0]);
            Bounds.due("function " + heads[i], Check.bootBytes(x, bytes), i < 3 ? 1 : Check.NONE);
            Bounds.dueFault("function " + heads[i], x, i < 3 ? 0 : 4, i < 3 ? Check.NONE : 4);
        }
        String both = "function 5.0.0.0 5.0.0.1 : none 2\n EXIT\n";
        SealedProcesses x = Check.withModule(head + both);
        Bounds.due("ends in state 0", Check.boot(x, Asm.process(0, 0, 1, 0, 0)), 1);
        x = Check.withModule(head + both.replace("5.0.0.1", "5.0.1.1"));
        Bounds.due("one in state 1", Check.boot(x, Asm.process(0, 0, 1, 0, 0)), Check.NONE);
        Bounds.dueFault("one in state 1", x, 4, 4);
    }

    private static void sizes() {
        Bounds.says("a module (of the shelf), a function, S (1 to 64)");
        edge(1, manifest(Asm.process(0, 0, 1)), manifest(Asm.process(0, 0, 0)));
        edge(1, manifest(Asm.process(0, 0, 64)), manifest(Asm.process(0, 0, 65)));
        edge(1, manifest(Asm.process(0, 0, 64)), manifest(Asm.process(0, 0, 255)));
        Bounds.says("with HEAPS of 16 S cells;");
        for (int size : new int[] {1, 2, 63, 64}) {
            Bounds.due("cells of " + size, taken(manifest(Asm.process(0, 0, size))).process(0, 8), 16 * size);
        }
    }

    private static void constants() {
        Bounds.says("of an INT a K, of an end a number 0 to 7.");
        int[] all = {0, -1, Integer.MIN_VALUE, Integer.MAX_VALUE};
        int[] bytes = Asm.join(new int[] {83, 70, 1, 0, 1, 1}, Asm.word(all[0]), Asm.word(all[1]), Asm.word(all[2]),
            Asm.word(all[3]));
        SealedProcesses x = taken(bytes);
        for (int i = 0; i < 4; i++) {
            Bounds.due("INT " + i, x.value(0, 1, i), all[i]);
        }
        for (int n = 6; n < bytes.length; n++) {
            refused(1, n, Arrays.copyOf(bytes, n));
        }
    }

    private static int[] pair(int number) {
        return manifest(Asm.process(0, 2, 1, number), Asm.process(0, 3, 1, number));
    }

    private static void numbers() {
        for (int number = 0; number <= 7; number++) {
            SealedProcesses x = taken(pair(number));
            Bounds.due("its channel", x.value(0, 1, 0), 0);
            Bounds.due("its other end", x.value(1, 1, 0), 1);
            Bounds.due("channels", x.about(3), 1);
        }
        edge(1, pair(7), pair(8));
        edge(1, pair(7), pair(255));
        // All eight numbers, each twice.
        int[] all = manifest(Asm.process(0, 4, 1, 7, 6, 5, 4), Asm.process(0, 5, 1, 3, 2, 1, 0),
            Asm.process(0, 4, 1, 0, 1, 2, 3), Asm.process(0, 5, 1, 4, 5, 6, 7));
        SealedProcesses x = taken(all);
        Bounds.due("eight channels", x.about(3), 8);
        Bounds.says("a channel for each number, in the order of the numbers' first uses.");
        int[][] ends = {{0, 2, 4, 6}, {9, 11, 13, 15}, {14, 12, 10, 8}, {7, 5, 3, 1}};
        for (int p = 0; p < 4; p++) {
            for (int i = 0; i < 4; i++) {
                Bounds.due("end " + i + " of " + p, x.value(p, 1, i), ends[p][i]);
                Bounds.due("its owner", x.channel(ends[p][i] / 2, ends[p][i] % 2, 1), p);
                Bounds.due("its state", x.channel(ends[p][i] / 2, ends[p][i] % 2, 0), 0);
                Bounds.due("its messages", x.channel(ends[p][i] / 2, ends[p][i] % 2, 2), 0);
            }
        }
        Bounds.due("no ninth", x.channel(8, 0, 0), Check.NONE);
    }

    private static void uses() {
        Bounds.says("5 a number of an end that was used twice, or whose other use is of the same side, or of a "
            + "contract that is not alike:");
        int[] client = Asm.process(0, 2, 1, 3);
        int[] server = Asm.process(0, 3, 1, 3);
        taken(manifest(client, server));
        taken(manifest(server, client));
        refused(5, 14, manifest(client, server, client));
        refused(5, 14, manifest(client, server, server));
        refused(5, 14, manifest(server, client, client));
        refused(5, 10, manifest(client, client));
        refused(5, 10, manifest(server, server));
        refused(5, 10, manifest(client, client, server));
        // Both in one process.
        taken(manifest(Asm.process(0, 8, 1, 0, 0, 0, 0, 7, 7)));
        refused(5, 7, manifest(Asm.process(0, 4, 1, 0, 0, 1, 2)));
    }

    private static void usedOnce() {
        Bounds.says("6 at the end: a number was used just once.");
        int[] lone = manifest(Asm.process(0, 2, 1, 0));
        refused(6, lone.length, lone);
        taken(pair(0));
        int[] three = manifest(Asm.process(0, 2, 1, 0), Asm.process(0, 3, 1, 0), Asm.process(0, 2, 1, 7));
        refused(6, three.length, three);
        int[] first = manifest(Asm.process(0, 2, 1, 7), Asm.process(0, 8, 1, 0, 0, 0, 0, 1, 1));
        refused(6, first.length, first);
        int[] two = manifest(Asm.process(0, 8, 1, 0, 0, 0, 0, 1, 2));
        refused(6, two.length, two);
        taken(manifest(PLAIN));
        // A byte behind it all is met first.
        refused(1, lone.length, Asm.join(lone, new int[] {0}));
    }

    private static void usedAgain() {
        // What one manifest used, taken or refused, is nothing to the next.
        SealedProcesses x = withModule();
        int[][] manifests = {pair(3), manifest(Asm.process(0, 2, 1, 3)), pair(3),
            manifest(Asm.process(0, 2, 1, 3), Asm.process(0, 2, 1, 3)), pair(3),
            manifest(Asm.process(0, 4, 1, 0, 1, 2, 3), Asm.process(0, 5, 1, 0, 1, 2, 3)), pair(3), pair(0)};
        int[] faults = {0, 6, 0, 5, 0, 0, 0, 0};
        int[] channels = {1, 1, 1, 1, 1, 4, 1, 1};
        for (int i = 0; i < manifests.length; i++) {
            Bounds.due("manifest " + i, Check.bootBytes(x, manifests[i]), faults[i] == 0 ? 2 : Check.NONE);
            Bounds.due("its fault", x.fault(0), faults[i]);
            Bounds.due("channels", x.about(3), channels[i]);
            Bounds.due("the first end", x.value(0, 1, 0), 0);
            Bounds.due("the other end", x.value(1, 1, 0), 1);
        }
    }

    /** Whether a number may be used for ends of the contracts 0 of two modules. */
    private static void dueAlike(boolean want, String one, String other) {
        String[][] ways = {{one, other}, {other, one}};
        for (String[] way : ways) {
            SealedProcesses x = new SealedProcesses();
            Bounds.due("load of " + way[0], Check.load(x, way[0] + "function 5.0.0.0 : none 1\n EXIT\n"), 0);
            Bounds.due("load of " + way[1], Check.load(x, way[1] + "function 5.0.0.1 : none 1\n EXIT\n"), 1);
            String what = "alike: " + way[0] + " and " + way[1];
            Bounds.due(what, Check.boot(x, Asm.process(0, 0, 1, 0), Asm.process(1, 0, 1, 0)), want ? 2 : Check.NONE);
            Bounds.dueFault(what, x, want ? 0 : 5, want ? Check.NONE : 10);
        }
    }

    private static void alikeEdge(String one, String unlike) {
        dueAlike(true, one, one);
        dueAlike(false, one, unlike);
    }

    private static void alike() {
        Bounds.says("as many states, each with the same turn, as many messages, these with alike loads and states "
            + "then");
        String eight = "contract\n" + " state client none>0 none>1 none>2 none>7\n".repeat(8);
        String seven = " state client none>0 none>1 none>2 none>7\n".repeat(7);
        // The same seven, and one state more or a last one less.
        String first = "contract\n" + seven.replace(">7", ">6");
        alikeEdge(first, first + " state nobody\n");
        alikeEdge("contract\n state nobody\n", "contract\n state nobody\n state nobody\n");
        alikeEdge(eight, first);
        alikeEdge(eight, "contract\n" + seven + " state server none>0 none>1 none>2 none>7\n");
        alikeEdge(eight, "contract\n" + seven + " state client none>0 none>1 none>2\n");
        alikeEdge(eight, "contract\n" + seven + " state client none>0 none>1 none>2 none>6\n");
        alikeEdge(eight, "contract\n" + seven + " state client none>0 none>1 none>2 0>7\n");
        alikeEdge(eight, "contract\n" + seven + " state nobody\n");
        Bounds.says("(loads are alike when they are INT, blocks of as many fields, or ends of one state and side of "
            + "alike contracts: two are unlike when there is anything in them, however far, that is not so)");
        String loads = "record 0 0 0 0 0 0\nrecord 0 0 0 0 0\nrecord 0 0 0 0 0 0\ncontract\n state client 0>0 4.0>0 "
            + "5.1.1.0>0\ncontract\n state client none>0\n state client none>0\n";
        dueAlike(true, loads, loads.replace("4.0", "4.2"));
        alikeEdge(loads, loads.replace("4.0", "4.1"));
        alikeEdge(loads, loads.replace("client 0>0", "client 4.0>0"));
        alikeEdge(loads, loads.replace("client 0>0", "client none>0"));
        alikeEdge(loads, loads.replace("5.1.1.0", "5.1.0.0"));
        alikeEdge(loads, loads.replace("5.1.1.0", "5.1.1.1"));
        alikeEdge(loads, loads.replace("5.1.1.0", "5.0.0.0"));
        // As far as four contracts go.
        String far = "contract\n state client 5.1.0.0>0\ncontract\n state client 5.2.0.0>0\ncontract\n"
            + " state client 5.3.0.0>0\ncontract\n state client none>0 5.0.0.0>0\n state server none>1\n";
        alikeEdge(far, far.replace("server none>1", "server none>0"));
        // One that names itself is like one that names another like it.
        String self = "contract\n state client 5.0.0.0>0\n";
        dueAlike(true, self, "contract\n state client 5.1.0.0>0\ncontract\n state client 5.0.0.0>0\n");
        dueAlike(false, self, "contract\n state client 5.1.0.0>0\ncontract\n state client 5.0.0.1>0\n");
    }

    private static void alikeOfThree() {
        // The first pair of contracts is alike; that is nothing to the next, of the same numbers in other modules.
        String plain = "contract\n state client none>0\n";
        for (String other : new String[] {plain, "contract\n state client 0>0\n"}) {
            SealedProcesses x = new SealedProcesses();
            Check.load(x, plain + "function 5.0.0.0 5.0.0.0 : none 2\n EXIT\n");
            Check.load(x, plain + "function 5.0.0.1 : none 1\n EXIT\n");
            Bounds.due("load of " + other, Check.load(x, other + "function 5.0.0.1 : none 1\n EXIT\n"), 2);
            int booted = Check.boot(x, Asm.process(0, 0, 1, 0, 1), Asm.process(1, 0, 1, 0), Asm.process(2, 0, 1, 1));
            Bounds.due("alike with " + other, booted, other.equals(plain) ? 3 : Check.NONE);
            Bounds.dueFault("alike with " + other, x, other.equals(plain) ? 0 : 5,
                other.equals(plain) ? Check.NONE : 15);
        }
    }

    private static void firstFromTheLeft() {
        Bounds.says("The first that is met from the left.");
        refused(1, 2, 83, 70, 0, 6, 255, 0);
        refused(3, 3, 83, 70, 1, 6, 255, 0);
        refused(4, 4, 83, 70, 1, 0, 255, 0);
        refused(1, 5, 83, 70, 1, 0, 2, 0, 9);
        refused(1, 6, 83, 70, 1, 0, 2, 1, 9);
        refused(3, 7, 83, 70, 2, 0, 2, 1, 0, 6);
        refused(5, 10, 83, 70, 3, 0, 2, 1, 0, 0, 2, 1, 0, 6, 255);
        refused(1, 7, 83, 70, 2, 0, 2, 1, 0);
        refused(1, 8, 83, 70, 2, 0, 2, 1, 0, 0);
    }

    private static void end() {
        Bounds.says("FAULTS: 1 like that of modules;");
        int[] whole = manifest(Asm.process(0, 8, 1, 1, 2, 3, 4, 7, 7), Asm.process(0, 9, 64));
        taken(whole);
        for (int n = 0; n < whole.length; n++) {
            refused(1, n, Arrays.copyOf(whole, n));
        }
        for (int more : new int[] {0, 83, 255}) {
            refused(1, whole.length, Asm.join(whole, new int[] {more}));
        }
        SealedProcesses x = withModule();
        Check.feed(x, Asm.join(whole, new int[] {9, 9}));
        Bounds.due("bytes behind the first n", x.boot(whole.length), 2);
    }

    private static void booted() {
        Bounds.says("BOOT: all that ran is gone; processes 0 to P - 1 are there");
        String text = """
            record 0
            contract
              state client none>0
            function : none 1
              CHANNEL 0
              STORE 0
              BLOCK 0
              PUSH 1
              OUT
              SPAWN 0
              YIELD
              EXIT
            function : none 0
              YIELD
              EXIT
            """;
        SealedProcesses x = Bounds.booted(text, PLAIN, PLAIN);
        Bounds.run(x, 14);
        Bounds.dueAll("about", Probe.about(x), 14, 0, 4, 2, 2, 4, 2);
        Bounds.due("boot", Check.boot(x, Asm.process(0, 1, 2)), 1);
        Bounds.dueAll("about", Probe.about(x), 0, 0, 1, 0, 0, 0, 0);
        Bounds.due("process 0", x.process(0, 3), 1);
        for (int p = 1; p < 12; p++) {
            Bounds.due("process " + p, x.process(p, 0), Check.NONE);
            Bounds.due("its value", x.value(p, 1, 0), Integer.MIN_VALUE);
        }
        for (int c = 0; c < 2; c++) {
            Bounds.due("channel", x.channel(c, 0, 0), Check.NONE);
            Bounds.due("channel", x.channel(c, 1, 0), Check.NONE);
            Bounds.due("block", x.block(c, 0), Check.NONE);
            Bounds.due("output", x.output(c, 0), Check.NONE);
        }
        // The turns begin anew from process 0.
        Bounds.due("boot", Check.boot(x, Asm.process(0, 1, 1), Asm.process(0, 1, 1)), 2);
        Bounds.run(x, 1);
        Bounds.due("boot", Check.boot(x, Asm.process(0, 1, 1), Asm.process(0, 1, 1)), 2);
        Bounds.run(x, 1);
        Bounds.due("the first step is of process 0", x.process(0, 9), 1);
        Bounds.due("not of process 1", x.process(1, 9), 0);
    }
}
