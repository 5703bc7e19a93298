import java.util.Arrays;

/** PART 1's bounds of a module's form and of its names, a test for each of the document's sentences. */
public final class ModuleBoundsTest {
    private static final String MAIN = "function : none 0\n EXIT\n";

    public static void main(String[] args) throws Exception {
        Bounds.open(args);
        beginning();
        records();
        contracts();
        messages();
        loads();
        functions();
        parametersAndLocals();
        lengthOfCode();
        types();
        sides();
        recordsThatAreNamed();
        contractsThatAreNamed();
        statesThatAreNamed();
        functionsThatAreNamed();
        recordsOfBlocks();
        targets();
        instructions();
        operands();
        endOfCode();
        endOfModule();
        orderOfFaults();
        Check.end();
    }

    private static void beginning() {
        Bounds.says("module = 83, 77, R (0 to 8), R records");
        int[] good = Asm.module(MAIN);
        Bounds.taken(good);
        for (int number : new int[] {0, 82, 84, 255}) {
            Bounds.refused(Bounds.with(good, 0, number), 1, 0);
        }
        for (int number : new int[] {0, 76, 78, 70, 255}) {
            Bounds.refused(Bounds.with(good, 1, number), 1, 1);
        }
        Bounds.edge("record 0\n".repeat(8) + MAIN, "record 0\n".repeat(9) + MAIN);
        Bounds.refused(Bounds.with(good, 2, 255), 1, 2);
    }

    private static void records() {
        Bounds.says("record = how many fields (1 to 6), for each a type.");
        Bounds.edge("record 0\n" + MAIN, "record\n" + MAIN);
        Bounds.edge("record" + " 0".repeat(6) + "\n" + MAIN, "record" + " 0".repeat(7) + "\n" + MAIN);
        Bounds.edge("record 0\n".repeat(7) + "record" + " 2".repeat(6) + "\n" + MAIN,
            "record 0\n".repeat(7) + "record" + " 2".repeat(7) + "\n" + MAIN);
    }

    private static void contracts() {
        String plain = "contract\n state nobody\n";
        Bounds.says("C (0 to 4), C contracts");
        Bounds.taken(MAIN);
        Bounds.edge(plain.repeat(4) + MAIN, plain.repeat(5) + MAIN);
        Bounds.says("contract = how many states (1 to 8), for each:");
        Bounds.edge(plain + MAIN, "contract\n" + MAIN);
        Bounds.edge("contract\n" + " state nobody\n".repeat(8) + MAIN,
            "contract\n" + " state nobody\n".repeat(9) + MAIN);
        Bounds.says("whose TURN it is (0 nobody's, 1 the client's, 2 the server's)");
        Bounds.taken(plain + MAIN);
        Bounds.taken("contract\n state client none>0\n" + MAIN);
        Bounds.edge("contract\n state server none>0\n" + MAIN, "contract\n state 3 none>0\n" + MAIN);
        Bounds.edge("contract\n state server none>0\n" + MAIN, "contract\n state 255 none>0\n" + MAIN);
    }

    private static void messages() {
        Bounds.says("how many messages (0 to 4: none if it is nobody's, else at least one)");
        Bounds.edge("contract\n state nobody\n" + MAIN, "contract\n state nobody none>0\n" + MAIN);
        for (String turn : new String[] {"client", "server"}) {
            String state = "contract\n state " + turn;
            Bounds.edge(state + " none>0\n" + MAIN, state + "\n" + MAIN);
            Bounds.edge(state + " none>0".repeat(4) + "\n" + MAIN, state + " none>0".repeat(5) + "\n" + MAIN);
        }
    }

    private static void loads() {
        Bounds.says("for each its load (a type, or 255: none) and the state then");
        String contract = "record 0\ncontract\n state client ";
        Bounds.edge(contract + "none>0\n" + MAIN, contract + "254>0\n" + MAIN);
        Bounds.edge(contract + "5.0.0.0>0\n" + MAIN, contract + "6>0\n" + MAIN);
        Bounds.says("Fields have types 0 to 3, loads 0, 4 or 5.");
        for (String load : new String[] {"0", "4.0", "5.0.0.0"}) {
            for (String other : new String[] {"1.0", "2", "3.0"}) {
                Bounds.edge(contract + load + ">0\n" + MAIN, contract + other + ">0\n" + MAIN);
            }
        }
        String behind = "\ncontract\n state nobody\n" + MAIN;
        for (String field : new String[] {"0", "1.0", "2", "3.0"}) {
            for (String other : new String[] {"4.0", "5.0.0.0", "6", "255"}) {
                Bounds.edge("record 0\nrecord 0 " + field + behind, "record 0\nrecord 0 " + other + behind);
            }
        }
    }

    private static void functions() {
        Bounds.says("F (1 to 10), F functions.");
        Bounds.edge(MAIN, "");
        Bounds.edge(MAIN.repeat(10), MAIN.repeat(11));
        SealedProcesses x = Check.withModule(MAIN.repeat(10));
        Bounds.due("ten functions", x.module(0, 0, 2), 10);
        Bounds.due("the tenth", x.module(0, 9, 12), 1);
    }

    private static String function(int params, int locals) {
        return "function" + " 0".repeat(params) + " : none " + locals + "\n EXIT\n";
    }

    private static void parametersAndLocals() {
        Bounds.says("function = how many parameters (0 to 4), for each a type;");
        Bounds.taken(function(0, 0));
        Bounds.edge(function(4, 10), function(5, 10));
        Bounds.says("how many locals (as many as parameters to 10);");
        for (int params = 0; params <= 4; params++) {
            Bounds.taken(function(params, params));
            if (params > 0) {
                Bounds.edge(function(params, params), function(params, params - 1));
            }
            Bounds.edge(function(params, 10), function(params, 11));
        }
    }

    private static void lengthOfCode() {
        Bounds.says("how many bytes of code (1 to 240); the code.");
        String head = "function : none 0\n";
        Bounds.edge(head + "EXIT\n", head);
        Bounds.edge(head + "YIELD\n".repeat(239) + "EXIT\n", head + "YIELD\n".repeat(240) + "EXIT\n");
        Bounds.edge(head + "EXIT\n".repeat(240), head + "EXIT\n".repeat(255));
        // The most in each of eight functions, all but filling the tape.
        Bounds.taken((head + "YIELD\n".repeat(239) + "EXIT\n").repeat(8));
    }

    private static void types() {
        Bounds.says("type = 0 (INT), 1 r (a NODE of record r, or NIL)");
        String head = "record 0\ncontract\n state nobody\n";
        for (String type : new String[] {"0", "1.0", "2", "3.0", "4.0", "5.0.0.0", "5.0.0.1"}) {
            Bounds.edge(head + "function " + type + " : none 1\n EXIT\n", head + "function 6 : none 1\n EXIT\n");
            Bounds.edge(head + "function 0 0 0 " + type + " : none 4\n EXIT\n",
                head + "function 0 0 0 255 : none 4\n EXIT\n");
        }
        Bounds.says("a type that may not stand there (at its first byte),");
        Bounds.refused(Asm.module("record 0 5.9.9.9\n" + MAIN), 1, 5);
        Bounds.refused(Asm.module("record 0 4.9\n" + MAIN), 1, 5);
        Bounds.refused(Asm.module("contract\n state client 3.9>0\n" + MAIN), 1, 7);
        Bounds.refused(Asm.module("function 0 255.0 : none 2\n EXIT\n"), 1, 7);
        Bounds.refused(Asm.module("function : 6.0 0\n EXIT\n"), 1, 6);
        Bounds.says("its result (a type, or 255: none);");
        for (String type : new String[] {"0", "1.0", "2", "3.0", "4.0", "5.0.0.0", "5.0.0.1", "none"}) {
            for (String other : new String[] {"6", "7", "254"}) {
                Bounds.edge(head + "function : " + type + " 0\n EXIT\n", head + "function : " + other + " 0\n EXIT\n");
            }
        }
    }

    private static void sides() {
        Bounds.says("of side d: 0 the client's, 1 the server's");
        Bounds.says("a side above 1;");
        String head = "contract\n state client 5.0.0.";
        String behind = ">0\nfunction 5.0.0.1 : 5.0.0.1 1\n EXIT\n";
        Bounds.taken(head + "0" + behind);
        Bounds.edge(head + "1" + behind, head + "2" + behind);
        Bounds.edge(head + "1" + behind, head + "255" + behind);
        Bounds.edge(head + "1" + behind, head + "1" + behind.replace("5.0.0.1 :", "5.0.0.2 :"));
        Bounds.edge(head + "1" + behind, head + "1" + behind.replace(": 5.0.0.1", ": 5.0.0.2"));
    }

    /** All that names record r. */
    private static String[] withRecord(int r) {
        return new String[] {
            "record 1." + r + "\n@" + MAIN, "record 3." + r + "\n@" + MAIN,
            "record 0\n@contract\n state client 4." + r + ">0\n" + MAIN,
            "record 0\n@function 1." + r + " : none 1\n EXIT\n", "record 0\n@function 3." + r + " : none 1\n EXIT\n",
            "record 0\n@function 4." + r + " : none 1\n EXIT\n", "record 0\n@function : 1." + r + " 0\n EXIT\n",
            "record 0\n@function : 3." + r + " 0\n EXIT\n", "record 0\n@function : 4." + r + " 0\n EXIT\n",
            "record 0\n@function : none 0\n NEW " + r + "\n EXIT\n",
            "record 0\n@function : none 0\n PUSH 0\n ROWS " + r + "\n EXIT\n",
            "record 0\n@function : none 0\n BLOCK " + r + "\n EXIT\n"
        };
    }

    private static void recordsThatAreNamed() {
        Bounds.says("Records, contracts and states that are named are there (anywhere in the module);");
        for (int count : new int[] {1, 2, 8}) {
            String others = "record 0\n".repeat(count - 1);
            String[] good = withRecord(count - 1);
            for (int refused : new int[] {count, 255}) {
                String[] bad = withRecord(refused);
                for (int i = 0; i < good.length; i++) {
                    Bounds.edge(good[i].replace("@", others), bad[i].replace("@", others));
                }
            }
        }
        int[] none = Asm.module("function 1.0 : none 1\n EXIT\n");
        Bounds.refused(none, 1, 7);
    }

    private static void contractsThatAreNamed() {
        Bounds.says("1 at the first byte that names what is not there: a record, contract, function;");
        for (int count : new int[] {1, 2, 4}) {
            String others = "contract\n state nobody\n".repeat(count - 1);
            int last = count - 1;
            for (int refused : new int[] {count, 255}) {
                String first = "contract\n state client 5.";
                Bounds.edge(first + last + ".0.0>0\n" + others + MAIN, first + refused + ".0.0>0\n" + others + MAIN);
                String plain = "contract\n state nobody\n" + others + "function ";
                Bounds.edge(plain + "5." + last + ".0.0 : none 1\n EXIT\n",
                    plain + "5." + refused + ".0.0 : none 1\n EXIT\n");
                Bounds.edge(plain + ": 5." + last + ".0.0 0\n EXIT\n", plain + ": 5." + refused + ".0.0 0\n EXIT\n");
                Bounds.edge(plain + ": none 0\n CHANNEL " + last + "\n EXIT\n",
                    plain + ": none 0\n CHANNEL " + refused + "\n EXIT\n");
            }
        }
        Bounds.refused(Asm.module("function : none 0\n CHANNEL 0\n EXIT\n"), 1, 10);
    }

    private static void statesThatAreNamed() {
        Bounds.says("a state (also one that comes next);");
        for (int count : new int[] {1, 2, 8}) {
            String others = " state nobody\n".repeat(count - 1);
            int last = count - 1;
            String first = "contract\n state client none>0 ";
            for (int refused : new int[] {count, 255}) {
                Bounds.edge(first + "none>" + last + "\n" + others + MAIN,
                    first + "none>" + refused + "\n" + others + MAIN);
                Bounds.edge(first + "5.0." + last + ".1>0\n" + others + MAIN,
                    first + "5.0." + refused + ".1>0\n" + others + MAIN);
                String plain = first + "\n" + others + "function ";
                Bounds.edge(plain + "5.0." + last + ".0 : none 1\n EXIT\n",
                    plain + "5.0." + refused + ".0 : none 1\n EXIT\n");
                Bounds.edge(plain + ": 5.0." + last + ".0 0\n EXIT\n", plain + ": 5.0." + refused + ".0 0\n EXIT\n");
            }
        }
        // A state belongs to the contract that is named beside it, though another has more, or less.
        String unequal = "contract\n state client 5.1.@.0>0\n" + "contract\n" + " state nobody\n".repeat(8);
        Bounds.edge(unequal.replace("@", "7") + MAIN, unequal.replace("@", "8") + MAIN);
        String more = "contract\n" + " state nobody\n".repeat(8) + "contract\n state client none>@\n";
        Bounds.edge(more.replace("@", "0") + MAIN, more.replace("@", "1") + MAIN);
    }

    private static void functionsThatAreNamed() {
        Bounds.says("30 CALL f: the parameters become the result");
        for (int count : new int[] {1, 2, 10}) {
            for (String op : new String[] {"CALL", "SPAWN"}) {
                String head = "function : none 0\n " + op + " ";
                String others = "\n EXIT\n" + MAIN.repeat(count - 1);
                Bounds.edge(head + (count - 1) + others, head + count + others);
                Bounds.edge(head + 0 + others, head + 255 + others);
            }
        }
    }

    private static void recordsOfBlocks() {
        Bounds.says("a record of blocks has INTs alone.");
        Bounds.says("a record of a block that has other fields than INTs;");
        String head = "record 0 0 0 0 0 0\nrecord 0\nrecord 1.0\nrecord 2\nrecord 3.0\nrecord 0 0 0 0 0 2\n"
            + "record 2 0\n";
        for (int good : new int[] {0, 1}) {
            for (int bad = 2; bad <= 7; bad++) {
                // Record 7 is none at all.
                Bounds.edge(head + "contract\n state client 4." + good + ">0\n" + MAIN,
                    head + "contract\n state client 4." + bad + ">0\n" + MAIN);
                Bounds.edge(head + "function 4." + good + " : none 1\n EXIT\n",
                    head + "function 4." + bad + " : none 1\n EXIT\n");
                Bounds.edge(head + "function : 4." + good + " 0\n EXIT\n",
                    head + "function : 4." + bad + " 0\n EXIT\n");
                Bounds.edge(head + "function : none 0\n BLOCK " + good + "\n EXIT\n",
                    head + "function : none 0\n BLOCK " + bad + "\n EXIT\n");
            }
        }
    }

    private static void targets() {
        Bounds.says("T is a byte of the code where an instruction begins.");
        // Instructions begin at 0, 5, 7, 9 and 10; the code has 11 bytes.
        String[] codes = {"PUSH 0, ZERO @, JUMP 0, YIELD, EXIT", "PUSH 0, ZERO 9, JUMP @, YIELD, EXIT"};
        for (String code : codes) {
            String text = "function : none 0\n" + Bounds.lines(code);
            for (int good : new int[] {0, 5, 7, 9, 10}) {
                SealedProcesses x = new SealedProcesses();
                Check.load(x, text.replace("@", "" + good));
                Bounds.due("a T that is one: " + good, x.fault(0) == 1, false);
            }
            for (int bad : new int[] {1, 2, 3, 4, 6, 8, 11, 12, 255}) {
                Bounds.edge(text.replace("@", "9"), text.replace("@", "" + bad));
            }
        }
        // RECEIVE's, the first and the last; instructions begin at 0, 2 and 8; the code has 9 bytes.
        String contract = "contract\n state client none>0 none>0 none>0 none>0\n";
        String text = contract + "function 5.0.0.1 : none 1\n LOAD 0\n RECEIVE ";
        for (int bad : new int[] {1, 3, 4, 5, 6, 7, 9, 10, 255}) {
            Bounds.edge(text + "8 8 8 8\n EXIT\n", text + bad + " 8 8 8\n EXIT\n");
            Bounds.edge(text + "8 8 8 8\n EXIT\n", text + "8 8 8 " + bad + "\n EXIT\n");
        }
        // The T's of a function are in its own code.
        String two = "function : none 0\n EXIT\nfunction : none 0\n YIELD\n YIELD\n JUMP @\n";
        Bounds.edge(two.replace("@", "2"), two.replace("@", "3"));
        String turned = "function : none 0\n JUMP @\nfunction : none 0\n YIELD\n YIELD\n YIELD\n EXIT\n";
        Bounds.edge(turned.replace("@", "0"), turned.replace("@", "2"));
    }

    private static final String NAMED = """
        record 0 0 0 0 0 0
        contract
          state client none>0 none>0 none>0 none>0
        """;

    /** An instruction behind an EXIT, where nothing comes: only its form and its names are looked at. */
    private static String unreached(String instruction) {
        return NAMED + "function : none 10\n EXIT\n " + instruction + "\n";
    }

    private static void instructions() {
        Bounds.says("in code a byte that is no instruction,");
        int[] good = Asm.module(unreached("YIELD"));
        int last = good.length - 1;
        for (int op = 44; op <= 255; op++) {
            Bounds.refused(Bounds.with(good, last, op), 1, last);
            Bounds.refused(Bounds.with(good, last - 1, op), 1, last - 1);
        }
        for (int op = 0; op <= 43; op++) {
            String name = Asm.NAMES.get(op);
            int behind = bytesBehind(op);
            Bounds.taken(unreached(behind == 0 ? name : name + " 0"));
        }
    }

    private static int bytesBehind(int op) {
        switch (Asm.NAMES.get(op)) {
            case "PUSH":
                return 4;
            case "LOAD", "STORE", "JUMP", "ZERO", "NEW", "GET", "PUT", "ROWS", "CALL", "BLOCK", "SEE", "SET", "CHANNEL",
                "SEND", "SPAWN":
                return 1;
            case "RECEIVE":
                return 2;
            default:
                return 0;
        }
    }

    private static void operands() {
        Bounds.says("a local that is none, of GET, PUT, SEE, SET an f above 5, of SEND a t above 3, of RECEIVE n not "
            + "1 to 4;");
        for (String op : new String[] {"LOAD ", "STORE "}) {
            for (int locals : new int[] {1, 2, 10}) {
                String head = "function : none " + locals + "\n EXIT\n ";
                Bounds.edge(head + op + (locals - 1) + "\n", head + op + locals + "\n");
                Bounds.edge(head + op + "0\n", head + op + "255\n");
            }
            Bounds.refused(Asm.module("function : none 0\n EXIT\n " + op + "0\n"), 1, 11);
        }
        for (String op : new String[] {"GET ", "PUT ", "SEE ", "SET "}) {
            Bounds.edge(unreached(op + 5), unreached(op + 6));
            Bounds.edge(unreached(op + 0), unreached(op + 255));
        }
        Bounds.edge(unreached("SEND 3"), unreached("SEND 4"));
        Bounds.edge(unreached("SEND 0"), unreached("SEND 255"));
        int place = Asm.module(unreached("RECEIVE 0")).length - 2;
        for (int n : new int[] {1, 2, 3, 4}) {
            Bounds.taken(unreached("RECEIVE" + " 0".repeat(n)));
        }
        for (int n : new int[] {0, 5, 6, 200}) {
            Bounds.refused(Asm.module(unreached("RECEIVE" + " 0".repeat(n))), 1, place);
        }
    }

    private static void endOfCode() {
        Bounds.says("an instruction that does not end with the code: the byte behind the code.");
        for (int op = 0; op <= 43; op++) {
            endOfCode(Asm.NAMES.get(op) + (bytesBehind(op) == 0 ? "" : " 0"), bytesBehind(op));
        }
        endOfCode("RECEIVE 0 0 0 0", 5);
    }

    private static void endOfCode(String instruction, int behind) {
        int[] alone = Asm.module(unreached(instruction));
        Bounds.taken(alone);
        int start = alone.length - 2 - behind;
        for (int missing = 1; missing <= behind; missing++) {
            // At the module's end, and with a function behind it, whose first bytes could be taken for the rest.
            int[] cut = Arrays.copyOf(alone, alone.length - missing);
            cut[start - 1] -= missing;
            Bounds.refused(cut, 1, cut.length);
            Bounds.refused(withTwoFunctions(cut, start), 1, cut.length);
        }
    }

    // The byte that tells how many functions stands five bytes ahead of the only one's code.
    private static int[] withTwoFunctions(int[] module, int codeStart) {
        int[] two = Asm.join(module, new int[] {0, 255, 0, 1, 42});
        two[codeStart - 5] = 2;
        return two;
    }

    private static final String WHOLE = """
        record 0 0
        record 1.1 3.0 2
        contract
          state client 4.0>1 5.0.1.1>2 0>0
          state server none>2
          state nobody
        function 0 1.1 3.1 4.0 : 5.0.1.0 6
          PUSH 7
          POP
          NEW 1
          POP
          EXIT
        function 5.0.1.0 : none 1
          LOAD 0
          RECEIVE got
          got: CLOSE
          RETURN
        """;

    private static void endOfModule() {
        Bounds.says("the first byte with which no module goes on, or the end: numbers out of the bounds told above;");
        int[] whole = Asm.module(WHOLE);
        Bounds.taken(whole);
        for (int n = 0; n < whole.length; n++) {
            Bounds.refused(Arrays.copyOf(whole, n), 1, n);
        }
        Bounds.says("Nothing stands behind the last function.");
        for (int more : new int[] {0, 42, 255}) {
            Bounds.refused(Asm.join(whole, new int[] {more}), 1, whole.length);
            Bounds.refused(Asm.join(whole, new int[] {more, more}), 1, whole.length);
        }
        // What stands behind on the tape is no part of the module.
        SealedProcesses x = new SealedProcesses();
        Check.feed(x, Asm.join(whole, new int[] {1, 2, 3}));
        Bounds.due("bytes behind the first n", x.load(whole.length), 0);
    }

    private static void orderOfFaults() {
        Bounds.says("If there is none: 1 at the first byte that names what is not there");
        String bad = "function 1.0 : none 1\n NEW 0\n EXIT\n";
        Bounds.refused(Asm.module(bad), 1, 7);
        Bounds.refused(Asm.module(bad.replace("1.0", "0")), 1, 11);
        int[] form = Asm.module(bad);
        form[form.length - 1] = 44;
        Bounds.refused(form, 1, form.length - 1);
        Bounds.refused(Asm.join(Asm.module(bad), new int[] {0}), 1, form.length);
        // A name's number is no bound of the form, whatever it is.
        for (int name : new int[] {1, 8, 254, 255}) {
            String two = "record 0\ncontract\n state nobody\nfunction 1.@ 5.@.@.0 : none 2\n NEW @\n CALL @\n"
                + " CHANNEL @\n JUMP @\n EXIT\n";
            int[] bytes = Asm.module(two.replace("@", "" + name));
            Bounds.refused(bytes, 1, 12);
            Bounds.refused(Asm.join(bytes, new int[] {0}), 1, bytes.length);
            bytes[bytes.length - 1] = 44;
            Bounds.refused(bytes, 1, bytes.length - 1);
        }
        Bounds.says("If there is none: 2, with the place where its code begins: the first function that is not RIGHT.");
        String right = "function : none 0\n EXIT\n";
        String wrong = "function : none 0\n POP\n EXIT\n";
        Bounds.taken(right + right);
        Bounds.refused(Asm.module(wrong + right), 2, 9);
        Bounds.refused(Asm.module(right + wrong), 2, 14);
        Bounds.refused(Asm.module(wrong + wrong), 2, 9);
        Bounds.refused(Asm.module(right + wrong + wrong), 2, 14);
        Bounds.refused(Asm.module(wrong + "function : none 0\n NEW 0\n EXIT\n"), 1, 16);
    }
}
