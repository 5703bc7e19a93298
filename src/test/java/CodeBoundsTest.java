/** PART 1's bounds of RIGHT code, a test for each of the document's sentences. */
public final class CodeBoundsTest {
    // Functions 0 to 7; the one that is tested is function 8, the last.
    private static final String HEAD = """
        record 0 0
        record 1.1 0 2 3.1
        contract
          state client none>1 0>0 4.0>0 5.1.0.1>2
          state server none>0 0>2 4.0>2
          state nobody
        contract
          state server none>1
          state nobody
        function : none 0
          RETURN
        function 0 1.1 : 1.1 2
          LOAD 1
          RETURN
        function 5.0.0.0 4.0 : none 2
          EXIT
        function 2 : none 1
          RETURN
        function : 0 0
          PUSH 1
          RETURN
        function 0 0 0 0 : 0 4
          LOAD 3
          RETURN
        function 3.1 : none 1
          RETURN
        function : 5.0.0.0 0
          CALL 7
          RETURN
        """;
    private static final int TESTED = 8;

    public static void main(String[] args) throws Exception {
        Bounds.open(args);
        whatComesFirst();
        whatIsTaken();
        typesThatAreTaken();
        withoutRecords();
        mostOnTheStack();
        emptyLocals();
        linearOnce();
        behindTheLast();
        whatIsNotComeTo();
        heightsThatJoin();
        typesThatJoin();
        localsThatJoin();
        tillNothingChanges();
        behindAWrongOne();
        fields();
        messages();
        receives();
        closes();
        returns();
        spawns();
        surelyNil();
        pointersOrNil();
        exits();
        Check.end();
    }

    private static String text(String head, String code) {
        return HEAD + "function " + head + "\n" + Bounds.lines(code);
    }

    private static void right(String head, String code) {
        Bounds.taken(text(head, code));
    }

    // The code of the last function begins where a code of one byte is the last byte.
    private static void wrong(String head, String code) {
        Bounds.refused(Asm.module(text(head, code)), 2, Asm.module(text(head, "EXIT")).length - 1);
    }

    private static void edge(String head, String right, String wrong) {
        right(head, right);
        wrong(head, wrong);
    }

    private static void whatComesFirst() {
        Bounds.says("To the first instruction comes an empty stack, parameters in their locals, the others EMPTY.");
        wrong(": none 0", "POP, EXIT");
        for (int params = 0; params <= 4; params++) {
            String head = "0 ".repeat(params) + ": none 10";
            for (int l = 0; l < 10; l++) {
                if (l < params) {
                    right(head, "LOAD " + l + ", OUT, EXIT");
                } else {
                    wrong(head, "LOAD " + l + ", OUT, EXIT");
                }
            }
        }
        SealedProcesses x = Check.withModule(text("0 1.1 2 3.1 : none 10", "EXIT"));
        int[] want = {0, 1, 2, 3, 7, 7, 7, 7, 7, 7, Check.NONE};
        for (int l = 0; l <= 10; l++) {
            Bounds.due("local " + l, x.typeAt(0, TESTED, 0, 1, l), want[l]);
        }
        Bounds.due("stack", x.typeAt(0, TESTED, 0, 0, 0), Check.NONE);
    }

    /** The instruction, and ahead of it what makes each that it takes. */
    private static void takes(String instruction, String... makers) {
        String head = "5.0.0.0 5.0.1.0 5.0.2.0 0 : none 5";
        right(head, String.join(", ", makers) + ", " + instruction + ", EXIT");
        for (int missing = 1; missing <= makers.length; missing++) {
            StringBuilder fewer = new StringBuilder();
            for (int i = missing; i < makers.length; i++) {
                fewer.append(makers[i]).append(", ");
            }
            wrong(head, fewer + instruction + ", EXIT");
        }
    }

    private static void whatIsTaken() {
        Bounds.says("What an instruction wants has to be there whatever comes (as told above)");
        String one = "PUSH 1";
        String row = "PUSH 1, ROW";
        takes("STORE 4", one);
        takes("POP", one);
        takes("DUP", one);
        takes("SWAP", one, one);
        for (int op = 7; op <= 18; op++) {
            takes(Asm.NAMES.get(op), one, one);
        }
        takes("NONE", "NIL");
        takes("ZERO 0, EXIT", one);
        takes("GET 0", "NEW 0");
        takes("PUT 0", "NEW 0", one);
        takes("ROW", one);
        takes("ROWS 0", one);
        takes("LENGTH", row);
        takes("TAKE", row, one);
        takes("LAY", row, one, one);
        takes("CALL 1", one, "NEW 1");
        takes("CALL 5", one, one, one, one);
        takes("SEE 0", "BLOCK 0");
        takes("SET 0", "BLOCK 0", one);
        takes("FREE", "BLOCK 0");
        takes("SEND 0", "LOAD 0");
        takes("SEND 1", "LOAD 0", one);
        takes("CLOSE", "LOAD 2");
        takes("SPAWN 2", "LOAD 0", "BLOCK 0");
        takes("OUT", one);
        String receive = "RECEIVE a b c, a: EXIT, b: EXIT, c";
        right("5.0.1.0 : none 1", "LOAD 0, " + receive + ": EXIT");
        wrong("5.0.1.0 : none 1", receive + ": EXIT");
    }

    // What makes one of each kind: an INT, NIL, nodes of two records, rows, rows of two records, a block, ends.
    private static final String[] MAKERS = {"PUSH 1", "NIL", "NEW 0", "NEW 1", "PUSH 1, ROW", "PUSH 1, ROWS 0",
        "PUSH 1, ROWS 1", "BLOCK 0", "CALL 7", "LOAD 0"};

    /** Between what stands ahead and behind just those kinds are right. */
    private static void wants(String ahead, String behind, int... kinds) {
        for (int kind = 0; kind < MAKERS.length; kind++) {
            boolean fits = false;
            for (int good : kinds) {
                fits |= good == kind;
            }
            String code = ahead + MAKERS[kind] + ", " + behind + ", EXIT";
            if (fits) {
                right("5.0.2.0 : none 2", code);
            } else {
                wrong("5.0.2.0 : none 2", code);
            }
        }
    }

    private static void typesThatAreTaken() {
        for (int op = 7; op <= 18; op++) {
            wants("PUSH 1, ", Asm.NAMES.get(op), 0);
            wants("", "PUSH 1, " + Asm.NAMES.get(op), 0);
        }
        wants("", "NONE", 1, 2, 3, 4, 5, 6);
        wants("", "ZERO e, e: YIELD", 0);
        wants("", "OUT", 0);
        wants("", "ROW", 0);
        wants("", "ROWS 1", 0);
        wants("", "GET 1", 1, 2, 3);
        wants("", "PUSH 1, PUT 1", 1, 2, 3);
        wants("NEW 1, ", "PUT 0", 1, 3);
        wants("NEW 1, ", "PUT 1", 0);
        wants("NEW 1, ", "PUT 2", 1, 4);
        wants("NEW 1, ", "PUT 3", 1, 6);
        wants("", "LENGTH", 1, 4, 5, 6);
        wants("", "PUSH 0, TAKE", 1, 4, 5, 6);
        wants("PUSH 1, ROW, ", "TAKE", 0);
        wants("", "PUSH 0, NIL, LAY", 1, 5, 6);
        wants("", "PUSH 0, PUSH 1, LAY", 1, 4);
        wants("PUSH 1, ROW, ", "PUSH 1, LAY", 0);
        wants("PUSH 1, ROW, PUSH 0, ", "LAY", 0);
        wants("PUSH 1, ROWS 1, PUSH 0, ", "LAY", 1, 3);
        wants("", "SEE 0", 7);
        wants("", "PUSH 1, SET 0", 7);
        wants("BLOCK 0, ", "SET 0", 0);
        wants("", "FREE", 7);
        wants("", "CLOSE", 9);
        wants("", "SEND 0", 8);
        wants("CALL 7, ", "SEND 1", 0);
        wants("CALL 7, ", "SEND 2", 7);
        wants("", "NEW 1, CALL 1", 0);
        wants("PUSH 1, ", "CALL 1", 1, 3);
        wants("", "CALL 3", 1, 4);
        wants("", "CALL 6", 1, 6);
        wants("", "BLOCK 0, CALL 2", 8);
        wants("CALL 7, ", "CALL 2", 7);
        wants("", "BLOCK 0, SPAWN 2", 8);
        wants("CALL 7, ", "SPAWN 2", 7);
        wants("", "STORE 1", 0, 1, 2, 3, 4, 5, 6, 7, 8, 9);
        wants("", "POP", 0, 1, 2, 3, 4, 5, 6);
        wants("", "DUP", 0, 1, 2, 3, 4, 5, 6);
        wants("PUSH 1, ", "SWAP", 0, 1, 2, 3, 4, 5, 6, 7, 8, 9);
    }

    private static void withoutRecords() {
        // A module without records and contracts: what wants a node, a block or an end finds none.
        String[] instructions = {"GET 0", "GET 5", "PUSH 1, PUT 0", "SEE 0", "SEE 5", "PUSH 1, SET 5", "FREE", "LENGTH",
            "PUSH 1, TAKE", "PUSH 1, PUSH 1, LAY", "SEND 0", "PUSH 1, SEND 3", "RECEIVE 0", "CLOSE", "NONE"};
        for (String instruction : instructions) {
            String head = "function : none 1\n";
            Bounds.taken(head + Bounds.lines("EXIT, PUSH 1, " + instruction));
            Bounds.refused(Asm.module(head + Bounds.lines("PUSH 1, " + instruction + ", EXIT")), 2, 9);
            Bounds.refused(Asm.module(head + Bounds.lines(instruction + ", EXIT")), 2, 9);
        }
    }

    /** What is done grows the stack by so many; what it takes is made first. */
    private static void grows(int more, String makers, int made, String instruction) {
        String head = "0 5.0.1.0 5.0.0.0 : none 4";
        String fits = "PUSH 1, ".repeat(16 - more - made) + makers + instruction;
        edge(head, fits, "PUSH 1, " + fits);
        SealedProcesses x = Check.withModule(text(head, fits));
        Bounds.due("the most of " + fits, x.module(0, TESTED, 14), 16);
    }

    private static void mostOnTheStack() {
        Bounds.says("At most 16 are on a stack.");
        grows(1, "", 0, "PUSH 1, EXIT");
        grows(1, "", 0, "NIL, EXIT");
        grows(1, "", 0, "LOAD 0, EXIT");
        grows(1, "", 0, "DUP, EXIT");
        grows(1, "", 0, "NEW 0, EXIT");
        grows(1, "", 0, "BLOCK 0, EXIT");
        grows(1, "", 0, "CALL 4, EXIT");
        grows(1, "BLOCK 0, ", 1, "SEE 0, EXIT");
        grows(2, "", 0, "CHANNEL 0, EXIT");
        grows(1, "LOAD 1, ", 1, "RECEIVE a b c, a: EXIT, b: EXIT, c: EXIT");
        // With sixteen there already what takes as many as it puts is right.
        String full = "PUSH 1, ".repeat(16);
        right(": none 1", full + "SWAP, STORE 0, LOAD 0, ADD, EXIT");
        right(": none 1", full + "ROW, LENGTH, ROWS 1, NONE, EXIT");
        right(": none 1", full + "CALL 5, PUSH 1, PUSH 1, PUSH 1, EXIT");
        right("5.0.0.0 : none 1", "PUSH 1, ".repeat(15) + "LOAD 0, SEND 0, EXIT");
        right("5.0.0.0 : none 1", "PUSH 1, ".repeat(14) + "LOAD 0, PUSH 1, SEND 1, EXIT");
        right("5.0.1.0 : none 1", "PUSH 1, ".repeat(14) + "LOAD 0, RECEIVE a b c, a: EXIT, b: EXIT, c: EXIT");
        right("4.0 : none 1", "PUSH 1, ".repeat(14) + "LOAD 0, SEE 0, SET 0, FREE, EXIT");
    }

    private static void emptyLocals() {
        Bounds.says("LOAD of EMPTY is wrong.");
        edge(": none 2", "PUSH 1, STORE 0, LOAD 0, EXIT", "PUSH 1, STORE 0, LOAD 1, EXIT");
        edge(": none 1", "NIL, STORE 0, LOAD 0, EXIT", "LOAD 0, EXIT");
        Bounds.says("2 LOAD l: what local l has; if that is linear the local is EMPTY then.");
        edge("4.0 : none 1", "LOAD 0, EXIT", "LOAD 0, LOAD 0, EXIT");
        edge("5.0.0.0 : none 1", "LOAD 0, STORE 0, LOAD 0, EXIT", "LOAD 0, LOAD 0, EXIT");
    }

    private static void linearOnce() {
        Bounds.says("Types 4 and 5 are LINEAR.");
        Bounds.says("3 STORE l: one comes to local l, which must have nothing linear.");
        edge(": none 2", "BLOCK 0, STORE 0, BLOCK 0, STORE 1, EXIT", "BLOCK 0, STORE 0, BLOCK 0, STORE 0, EXIT");
        edge("4.0 : none 1", "LOAD 0, FREE, PUSH 1, STORE 0, EXIT", "PUSH 1, STORE 0, EXIT");
        edge("5.0.0.0 0 : none 2", "NIL, STORE 1, EXIT", "NIL, STORE 0, EXIT");
        Bounds.says("4 POP: one goes, nothing linear.");
        for (String plain : new String[] {"PUSH 1", "NIL", "NEW 0", "PUSH 1, ROW", "PUSH 1, ROWS 1"}) {
            right(": none 0", plain + ", POP, EXIT");
            right(": none 0", plain + ", DUP, EXIT");
        }
        wrong(": none 0", "BLOCK 0, POP, EXIT");
        wrong(": none 0", "CHANNEL 0, POP, EXIT");
        Bounds.says("5 DUP: the highest twice, nothing linear.");
        wrong(": none 0", "BLOCK 0, DUP, EXIT");
        wrong(": none 0", "CHANNEL 0, DUP, EXIT");
        edge(": none 0", "BLOCK 0, PUSH 1, DUP, EXIT", "PUSH 1, BLOCK 0, DUP, EXIT");
    }

    private static void behindTheLast() {
        Bounds.says("(behind the last one there is none to come to: wrong)");
        edge(": none 0", "YIELD, EXIT", "YIELD");
        edge(": none 0", "YIELD, RETURN", "YIELD, YIELD");
        edge(": none 0", "YIELD, JUMP 0", "JUMP 3, EXIT, YIELD");
        edge(": none 0", "PUSH 0, ZERO 0, EXIT", "PUSH 0, ZERO 0");
        right("5.0.1.0 : none 1", "JUMP s, a: EXIT, b: POP, CLOSE, EXIT, c: FREE, CLOSE, EXIT, s: LOAD 0, "
            + "RECEIVE a b c");
        edge(": none 0", "NIL, LENGTH", "NIL, NONE");
        wrong(": none 0", "PUSH 1, OUT");
        wrong(": none 0", "CALL 0");
        wrong(": none 0", "SPAWN 0");
        // The last of 240 bytes.
        edge(": none 0", "YIELD, ".repeat(239) + "EXIT", "YIELD, ".repeat(239) + "YIELD");
    }

    private static void whatIsNotComeTo() {
        Bounds.says("From each instruction that is come to go on what it leaves: to the next one (but JUMP, RETURN, "
            + "EXIT, RECEIVE), and to its T's");
        edge(": none 0", "EXIT, POP", "YIELD, POP, EXIT");
        edge(": none 0", "RETURN, POP", "CALL 0, POP, EXIT");
        edge(": none 0", "JUMP e, POP, e: EXIT", "JUMP e, EXIT, e: POP, EXIT");
        edge(": none 0", "PUSH 1, ZERO e, EXIT, POP, e: EXIT", "PUSH 1, ZERO e, EXIT, e: POP, EXIT");
        wrong(": none 0", "PUSH 1, ZERO e, POP, e: EXIT");
        edge("5.0.0.1 : none 1", "LOAD 0, RECEIVE e e2 e3 e4, ADD, e: EXIT, e2: EXIT, e3: EXIT, e4: EXIT",
            "LOAD 0, RECEIVE e e2 e3 e4, e: ADD, e2: EXIT, e3: EXIT, e4: EXIT");
        wrong("5.0.0.1 : none 1", "LOAD 0, RECEIVE e e2 e3 e4, e: EXIT, e2: EXIT, e3: EXIT, e4: ADD");
    }

    private static void heightsThatJoin() {
        Bounds.says("stacks of the same height, place by place: alike ones;");
        edge(": none 0", "PUSH 0, ZERO e, PUSH 1, POP, e: EXIT", "PUSH 0, ZERO e, PUSH 1, e: EXIT");
        edge(": none 0", "b: PUSH 1, POP, JUMP b", "b: PUSH 1, JUMP b");
        wrong(": none 0", "PUSH 1, PUSH 0, ZERO e, POP, e: EXIT");
    }

    private static String choice(String one, String other, String behind) {
        return "PUSH 0, ZERO o, " + one + ", JUMP j, o: " + other + ", j: " + behind;
    }

    private static void typesThatJoin() {
        Bounds.says("NIL and a type 1, 2 or 3: that one; others: wrong.");
        String[] makers = {"PUSH 1", "NEW 1", "PUSH 1, ROW", "PUSH 1, ROWS 1", "BLOCK 0", "CALL 7", "NIL",
            "NEW 0", "PUSH 1, ROWS 0"};
        int[] kinds = {0, 1, 2, 3, 4, 5, 6, 1, 3};
        for (int a = 0; a < makers.length; a++) {
            for (int b = 0; b < makers.length; b++) {
                boolean isNil = kinds[a] == 6 && kinds[b] >= 1 && kinds[b] <= 3
                    || kinds[b] == 6 && kinds[a] >= 1 && kinds[a] <= 3;
                String code = choice(makers[a], makers[b], "EXIT");
                if (a == b || isNil) {
                    right(": none 0", code);
                    SealedProcesses x = Check.withModule(text(": none 0", code));
                    int last = x.module(0, TESTED, 12) - 1;
                    int joined = kinds[a] == 6 ? kinds[b] : kinds[a];
                    Bounds.due("joined in " + code, x.typeAt(0, TESTED, last, 0, 0), joined);
                } else {
                    wrong(": none 0", code);
                }
            }
        }
        // Ends are alike when contract, state and side are.
        String two = "5.0.0.0 5.0.0.1 5.0.1.0 5.1.0.0 : none 4";
        for (int other = 1; other < 4; other++) {
            wrong(two, choice("LOAD 0", "LOAD " + other, "EXIT"));
        }
        right("5.0.0.0 5.0.0.0 : none 3", choice("LOAD 0, LOAD 1, STORE 0", "LOAD 1, LOAD 0, STORE 0", "EXIT"));
    }

    private static void localsThatJoin() {
        Bounds.says("Locals: likewise, but others become EMPTY, if nothing linear is among them (else wrong).");
        String[] plain = {"PUSH 1", "NIL", "NEW 0", "NEW 1", "PUSH 1, ROW", "PUSH 1, ROWS 0"};
        int[] kinds = {0, 6, 1, 1, 2, 3};
        for (int a = 0; a < plain.length; a++) {
            for (int b = 0; b < plain.length; b++) {
                String code = choice(plain[a] + ", STORE 0", plain[b] + ", STORE 0", "EXIT");
                right(": none 1", code);
                SealedProcesses x = Check.withModule(text(": none 1", code));
                int last = x.module(0, TESTED, 12) - 1;
                int want = a == b || kinds[b] == 6 && kinds[a] != 0 ? kinds[a] : kinds[a] == 6 && kinds[b] != 0
                    ? kinds[b] : 7;
                Bounds.due("joined in " + code, x.typeAt(0, TESTED, last, 1, 0), want);
                if (want == 7) {
                    wrong(": none 1", code.replace("EXIT", "LOAD 0, EXIT"));
                } else {
                    right(": none 1", code.replace("EXIT", "LOAD 0, EXIT"));
                }
            }
            // With EMPTY it is EMPTY; with what is linear it is wrong.
            edge(": none 1", "PUSH 0, ZERO e, " + plain[a] + ", STORE 0, e: EXIT",
                "PUSH 0, ZERO e, " + plain[a] + ", STORE 0, e: LOAD 0, EXIT");
            wrong(": none 1", choice("BLOCK 0, STORE 0", plain[a] + ", STORE 0", "EXIT"));
            wrong("5.0.0.0 : none 2", choice("LOAD 0, STORE 1", "LOAD 0, STORE 0, " + plain[a] + ", STORE 1", "EXIT"));
        }
        edge("4.0 : none 1", "PUSH 0, ZERO e, LOAD 0, STORE 0, e: EXIT", "PUSH 0, ZERO e, LOAD 0, FREE, e: EXIT");
        edge("5.0.0.0 : none 1", "PUSH 0, ZERO e, LOAD 0, PUSH 1, SEND 1, STORE 0, e: EXIT",
            "PUSH 0, ZERO e, LOAD 0, SEND 0, STORE 0, e: EXIT");
    }

    private static void tillNothingChanges() {
        Bounds.says("Where several come together they are JOINED, till nothing changes:");
        // What comes from behind goes on to all that stands behind, in as many rounds as it takes.
        edge(": none 1", "PUSH 1, STORE 0, b: LOAD 0, POP, PUSH 2, STORE 0, JUMP b",
            "PUSH 1, STORE 0, b: LOAD 0, POP, NIL, STORE 0, JUMP b");
        String late = "PUSH 0, ZERO n, NIL, STORE 0, b: LOAD 0, GET 1, @, n: NEW 1, STORE 0, JUMP b";
        edge(": none 1", late.replace("@", "OUT, EXIT"), late.replace("@", "ADD, EXIT"));
        String higher = "PUSH 0, ZERO n, NIL, b: LENGTH, @, n: PUSH 1, ROW, JUMP b";
        edge(": none 0", higher.replace("@", "OUT, EXIT"), higher.replace("@", "ADD, EXIT"));
        // Four locals hand it on, one a round: the last LOAD is wrong once an INT has come there.
        String slow = "NIL, STORE 0, NIL, STORE 1, NIL, STORE 2, NIL, STORE 3, b: LOAD 3, POP, LOAD 2, STORE 3, "
            + "LOAD 1, STORE 2, LOAD 0, STORE 1, @, STORE 0, JUMP b";
        edge(": none 4", slow.replace("@", "NEW 1"), slow.replace("@", "PUSH 1"));
        SealedProcesses x = Check.withModule(text(": none 4", slow.replace("@", "NEW 1")));
        for (int l = 0; l < 4; l++) {
            Bounds.due("local " + l + " where it joins", x.typeAt(0, TESTED, 12, 1, l), 1);
            Bounds.due("local " + l + " behind", x.typeAt(0, TESTED, 15, 1, l), 1);
        }
    }

    private static void behindAWrongOne() {
        // What was left to look at in a wrong function is nothing to the next one.
        String wrong = text(": none 0", "PUSH 0, ZERO e, POP, EXIT, e: YIELD, EXIT");
        String right = text(": none 0", "EXIT, " + "YIELD, ".repeat(7) + "POP, ".repeat(10) + "EXIT");
        SealedProcesses x = new SealedProcesses();
        Bounds.due("a wrong one", Check.load(x, wrong), Check.NONE);
        Bounds.due("a right one behind it", Check.load(x, right), 0);
        Bounds.due("nothing comes to its POP", x.typeAt(0, TESTED, 9, 1, 0), Check.NONE);
        Bounds.due("the most", x.module(0, TESTED, 14), 0);
    }

    private static void fields() {
        Bounds.says("23 GET f: a node becomes its field f.");
        edge(": none 0", "NEW 0, GET 1, OUT, EXIT", "NEW 0, GET 2, EXIT");
        edge(": none 0", "NEW 1, GET 3, LENGTH, OUT, EXIT", "NEW 1, GET 4, EXIT");
        Bounds.says("24 PUT f: a node and a value: its field f.");
        edge(": none 0", "NEW 0, PUSH 1, PUT 1, EXIT", "NEW 0, PUSH 1, PUT 2, EXIT");
        edge(": none 0", "NEW 1, NIL, PUT 3, EXIT", "NEW 1, NIL, PUT 4, EXIT");
        Bounds.says("33 SEE f: a block stays, its field f comes.");
        edge(": none 0", "BLOCK 0, SEE 1, OUT, FREE, EXIT", "BLOCK 0, SEE 2, OUT, FREE, EXIT");
        Bounds.says("34 SET f: a block stays, an INT ahead of which it is goes to field f.");
        edge(": none 0", "BLOCK 0, PUSH 1, SET 1, FREE, EXIT", "BLOCK 0, PUSH 1, SET 2, FREE, EXIT");
    }

    private static void messages() {
        Bounds.says("37 SEND t: an end whose turn it is, and above it the load of message t of its state, if that "
            + "has one");
        String client = "5.0.0.0 5.1.0.1 : none 2";
        edge(client, "LOAD 0, SEND 0, EXIT", "LOAD 0, SEND 1, EXIT");
        edge(client, "LOAD 0, PUSH 1, SEND 1, EXIT", "LOAD 0, PUSH 1, SEND 0, EXIT");
        edge(client, "LOAD 0, BLOCK 0, SEND 2, EXIT", "LOAD 0, PUSH 1, SEND 2, EXIT");
        edge(client, "LOAD 0, LOAD 1, SEND 3, CLOSE, EXIT", "LOAD 0, BLOCK 0, SEND 3, EXIT");
        // Of the server's three messages there is no fourth.
        edge("5.0.1.1 : none 1", "LOAD 0, BLOCK 0, SEND 2, CLOSE, EXIT", "LOAD 0, BLOCK 0, SEND 3, EXIT");
        right("5.1.0.1 : none 1", "LOAD 0, SEND 0, CLOSE, EXIT");
        for (String load : new String[] {"", "PUSH 1, ", "NIL, ", "BLOCK 0, ", "CALL 7, "}) {
            wrong("5.0.1.1 : none 1", "LOAD 0, " + load + "SEND 3, EXIT");
            wrong("5.1.0.1 : none 1", "LOAD 0, " + load + "SEND 1, EXIT");
        }
        // Whose turn it is.
        for (int state = 0; state < 3; state++) {
            for (int side = 0; side < 2; side++) {
                String head = "5.0." + state + "." + side + " : none 1";
                if (state == side) {
                    right(head, "LOAD 0, SEND 0, EXIT");
                } else {
                    wrong(head, "LOAD 0, SEND 0, EXIT");
                }
            }
        }
        Bounds.says("(The highest is the end if it is an end whose turn it is, with a message t without a load; else "
            + "it is the load.)");
        right("5.0.0.0 5.1.0.1 : none 2", "LOAD 0, LOAD 1, SEND 0, CLOSE, SEND 0, EXIT");
        edge("5.0.0.0 5.1.0.1 : none 2", "LOAD 1, LOAD 0, SEND 0, EXIT", "LOAD 1, LOAD 0, SEND 3, EXIT");
    }

    private static void receives() {
        Bounds.says("38 RECEIVE n T .. (n of them): an end whose state is the other side's turn, of n messages:");
        String three = "LOAD 0, RECEIVE a b c, a: EXIT, b: EXIT, c: EXIT, d: EXIT";
        edge("5.0.1.0 : none 1", three, three.replace("a b c", "a b"));
        wrong("5.0.1.0 : none 1", three.replace("a b c", "a b c c"));
        String four = three.replace("a b c,", "a b c d,");
        edge("5.0.0.1 : none 1", four, four.replace("a b c d", "a b c"));
        edge("5.1.0.0 : none 1", "LOAD 0, RECEIVE a, a: CLOSE, EXIT", "LOAD 0, RECEIVE a a, a: EXIT");
        wrong("5.0.0.0 : none 1", four);
        wrong("5.0.1.1 : none 1", three);
        wrong("5.0.2.0 : none 1", "LOAD 0, RECEIVE a, a: EXIT");
        wrong("5.0.2.1 : none 1", "LOAD 0, RECEIVE a, a: EXIT");
    }

    private static void closes() {
        Bounds.says("39 CLOSE: an end in a state that is nobody's turn goes.");
        for (int side = 0; side < 2; side++) {
            right("5.0.2." + side + " : none 1", "LOAD 0, CLOSE, EXIT");
            right("5.1.1." + side + " : none 1", "LOAD 0, CLOSE, EXIT");
            wrong("5.0.0." + side + " : none 1", "LOAD 0, CLOSE, EXIT");
            wrong("5.0.1." + side + " : none 1", "LOAD 0, CLOSE, EXIT");
            wrong("5.1.0." + side + " : none 1", "LOAD 0, CLOSE, EXIT");
        }
    }

    private static void returns() {
        Bounds.says("31 RETURN: just the result is on the stack, if there is one; no local has anything linear.");
        edge(": none 0", "RETURN", "PUSH 1, RETURN");
        edge(": 0 0", "PUSH 1, RETURN", "RETURN");
        wrong(": 0 0", "PUSH 1, PUSH 1, RETURN");
        edge(": 4.0 0", "BLOCK 0, RETURN", "BLOCK 0, BLOCK 0, RETURN");
        for (int l = 0; l < 10; l++) {
            edge(": none 10", "BLOCK 0, STORE " + l + ", LOAD " + l + ", FREE, RETURN",
                "BLOCK 0, STORE " + l + ", RETURN");
        }
        edge("5.0.2.0 : none 1", "LOAD 0, CLOSE, RETURN", "RETURN");
        edge("1.1 2 3.1 0 : none 4", "RETURN", "LOAD 0, RETURN");
    }

    private static void spawns() {
        Bounds.says("SPAWN: f has no result, its parameters are of types 0, 4, 5.");
        edge(": none 0", "SPAWN 0, EXIT", "SPAWN 4, EXIT");
        edge(": none 0", "CHANNEL 0, SWAP, BLOCK 0, SPAWN 2, EXIT", "NIL, SPAWN 3, EXIT");
        wrong(": none 0", "NIL, SPAWN 6, EXIT");
        wrong(": none 0", "PUSH 1, ROW, SPAWN 3, EXIT");
        wrong(": none 0", "PUSH 1, NIL, SPAWN 1, EXIT");
        edge("0 0 0 0 : none 4", "PUSH 1, PUSH 1, PUSH 1, PUSH 1, SPAWN 8, EXIT",
            "PUSH 1, PUSH 1, PUSH 1, SPAWN 8, EXIT");
        edge("0 1.1 : none 2", "PUSH 1, NIL, CALL 8, EXIT", "PUSH 1, NIL, SPAWN 8, EXIT");
    }

    private static void surelyNil() {
        Bounds.says("or just NIL: then nothing goes on behind it (it is a trap), and a value for it may be anything;");
        edge(": none 0", "NIL, GET 5, ADD", "NEW 0, GET 1, ADD");
        edge(": none 0", "NIL, BLOCK 0, PUT 5, ADD", "NEW 0, BLOCK 0, PUT 0, EXIT");
        edge(": none 0", "NIL, LENGTH, ADD", "PUSH 1, ROW, LENGTH, ADD");
        edge(": none 0", "NIL, PUSH 1, TAKE, ADD", "PUSH 1, ROW, PUSH 1, TAKE, ADD");
        edge(": none 0", "NIL, PUSH 1, BLOCK 0, LAY, ADD", "PUSH 1, ROW, PUSH 1, BLOCK 0, LAY, EXIT");
        edge("1.1 : none 1", choice("NIL", "NIL", "GET 1, ADD"), choice("NIL", "LOAD 0", "GET 1, ADD"));
        right("1.1 : none 1", choice("NIL", "LOAD 0", "GET 1, OUT, EXIT"));
        wrong("2 : none 1", choice("NIL", "LOAD 0", "GET 1, OUT, EXIT"));
    }

    private static void pointersOrNil() {
        Bounds.says("a value for a place of type 1, 2, 3 is of that type, or NIL.");
        for (String good : new String[] {"NIL", "NEW 1"}) {
            right(": none 0", "NEW 1, " + good + ", PUT 0, EXIT");
            right(": none 0", "PUSH 1, ROWS 1, PUSH 0, " + good + ", LAY, EXIT");
            right(": none 0", "PUSH 1, " + good + ", CALL 1, EXIT");
            right(": 1.1 0", good + ", RETURN");
        }
        for (String bad : new String[] {"PUSH 1", "NEW 0", "PUSH 1, ROW", "PUSH 1, ROWS 1", "BLOCK 0"}) {
            wrong(": none 0", "NEW 1, " + bad + ", PUT 0, EXIT");
            wrong(": none 0", "PUSH 1, ROWS 1, PUSH 0, " + bad + ", LAY, EXIT");
            wrong(": none 0", "PUSH 1, " + bad + ", CALL 1, EXIT");
            wrong(": 1.1 0", bad + ", RETURN");
        }
        edge(": none 0", "NEW 1, PUSH 1, ROW, PUT 2, EXIT", "NEW 1, PUSH 1, ROWS 1, PUT 2, EXIT");
        edge(": none 0", "NEW 1, PUSH 1, ROWS 1, PUT 3, EXIT", "NEW 1, PUSH 1, ROWS 0, PUT 3, EXIT");
        edge(": none 0", "NEW 1, NIL, PUT 3, EXIT", "NEW 1, NIL, PUT 1, EXIT");
        edge(": none 0", "PUSH 1, ROW, PUSH 0, PUSH 1, LAY, EXIT", "PUSH 1, ROW, PUSH 0, NIL, LAY, EXIT");
        edge(": none 0", "NIL, CALL 3, EXIT", "PUSH 1, ROWS 1, CALL 3, EXIT");
        edge(": none 0", "PUSH 1, ROWS 1, CALL 6, EXIT", "PUSH 1, ROWS 0, CALL 6, EXIT");
    }

    private static void exits() {
        Bounds.says("EXIT may leave anything.");
        edge("4.0 5.0.0.0 : 0 3", "BLOCK 0, CHANNEL 0, NIL, EXIT", "BLOCK 0, CHANNEL 0, NIL, RETURN");
    }
}
