import java.lang.reflect.Method;
import java.lang.reflect.Modifier;
import java.util.ArrayList;
import java.util.List;

/** The document from its first line to its last: the sentences that name no bound, each with a test. */
public final class DocumentTest {
    private static final String CONTRACT = "record 0 0\ncontract\n  state client 4.0>1 none>2\n"
        + "  state server 0>2\n  state nobody\n";

    public static void main(String[] args) throws Exception {
        Bounds.open(args);
        keptApart();
        onePlaceAlone();
        begunAndRun();
        face();
        types();
        names();
        numbersOfTwoInts();
        plainInstructions();
        freed();
        sent();
        turnsByType();
        nodesAndRows();
        places();
        allActivations();
        Check.end();
    }

    private static void keptApart() {
        Bounds.says("heaps that are collected, each of its own process;");
        // The first keeps nothing, the second all that it makes: its trap is its own.
        SealedProcesses x = Bounds.booted("record 0 1.0\n"
            + "function : none 1\n again: NEW 0\n STORE 0\n JUMP again\n"
            + "function : none 1\n NIL\n STORE 0\n again: NEW 0\n DUP\n LOAD 0\n PUT 1\n STORE 0\n JUMP again\n",
            Asm.process(0, 0, 1), Asm.process(0, 1, 1));
        x.run(1000);
        Bounds.due("the first goes on", x.process(0, 0), 1);
        Bounds.due("the second is over", x.process(1, 0), 5);
        Bounds.due("by its heap", x.process(1, 1), 5);
        // Two steps ahead of the loop, five whole rounds of six, and the sixth NEW.
        Bounds.due("behind five nodes", x.process(1, 9), 33);
        Bounds.due("the first one's steps", x.process(0, 9), 1000 - 33);
        Bounds.run(x, 1);
        Bounds.due("the first reaches what it stored last", x.process(0, 7), 3);
        Bounds.run(x, 2);
        Bounds.due("and what it makes then", x.process(0, 7), 6);
    }

    private static void onePlaceAlone() {
        Bounds.says("with pointers that only one place can have;");
        String[] twice = {"BLOCK 0, DUP, FREE, FREE, EXIT", "BLOCK 0, STORE 0, LOAD 0, FREE, LOAD 0, FREE, EXIT",
            "BLOCK 0, POP, EXIT", "BLOCK 0, STORE 0, PUSH 1, STORE 0, EXIT", "BLOCK 0, STORE 0, RETURN",
            "CHANNEL 0, DUP, EXIT", "CHANNEL 0, POP, EXIT", "CHANNEL 0, STORE 0, STORE 0, EXIT"};
        for (String code : twice) {
            int[] bytes = Asm.module(CONTRACT + "function : none 1\n" + Bounds.lines(code));
            Bounds.refused(bytes, 2, bytes.length - bytesOf(code));
        }
        Bounds.taken(CONTRACT + "function : none 1\n" + Bounds.lines("BLOCK 0, STORE 0, LOAD 0, STORE 0, EXIT"));
        Bounds.taken(CONTRACT + "function : none 1\n" + Bounds.lines("CHANNEL 0, STORE 0, EXIT"));
    }

    private static int bytesOf(String code) {
        int[] all = Asm.module("function : none 1\n" + Bounds.lines(code));
        return all[8];
    }

    private static void begunAndRun() {
        Bounds.says("processes begun from manifests, or by others, and run by turns.");
        SealedProcesses x = Bounds.booted("function : none 0\n PUSH 7\n SPAWN 1\n again: YIELD\n JUMP again\n"
            + "function 0 : none 1\n again: LOAD 0\n OUT\n YIELD\n JUMP again\n", Asm.process(0, 0, 1));
        Bounds.due("from the manifest", x.about(2), 1);
        Bounds.run(x, 3);
        Bounds.due("and by another", x.about(2), 2);
        Bounds.due("of function", x.process(1, 3), 1);
        Bounds.run(x, 3 + 2 + 4 + 2 + 4);
        Bounds.dueAll("OUTs by turns", new int[] {x.about(6), x.output(0, 0), x.output(0, 1), x.output(1, 1)},
            3, 1, 7, 7);
        Bounds.dueAll("steps of each", new int[] {x.process(0, 9), x.process(1, 9)}, 7, 11);
    }

    private static void face() throws Exception {
        List<String> lines = new ArrayList<>();
        lines.add("public final class SealedProcesses {");
        lines.add("public static final int NONE = -1;");
        lines.add("public SealedProcesses();");
        for (String line : lines) {
            Bounds.says(line);
        }
        Bounds.due("NONE", SealedProcesses.class.getField("NONE").getInt(null), -1);
        Bounds.says("`NONE = -1`: There is none.");
        Bounds.due("NONE", SealedProcesses.NONE, -1);
        int methods = 0;
        for (Method method : SealedProcesses.class.getDeclaredMethods()) {
            if (Modifier.isPublic(method.getModifiers())) {
                methods++;
                Bounds.says("public " + method.getReturnType() + " " + method.getName() + "(int ");
                Bounds.due("no static one: " + method.getName(), Modifier.isStatic(method.getModifiers()), false);
            }
        }
        Bounds.due("public methods", methods, 14);
    }

    private static void types() {
        Bounds.says("2 (a ROW of INTs, or NIL), 3 r (a row of nodes of record r, or NIL), 4 r (a BLOCK of record r), "
            + "5 c s d (an END of contract c in state s,");
        SealedProcesses x = new SealedProcesses();
        Check.load(x, CONTRACT + "function 0 1.0 2 3.0 : none 5\n EXIT\n"
            + "function 4.0 5.0.0.0 5.0.1.1 5.0.2.0 : none 4\n EXIT\n");
        for (int i = 0; i < 4; i++) {
            Bounds.due("parameter " + i, x.typeAt(0, 0, 0, 1, i), i);
        }
        Bounds.due("no parameter", x.typeAt(0, 0, 0, 1, 4), 7);
        Bounds.due("a block", x.typeAt(0, 1, 0, 1, 0), 4);
        for (int i = 1; i < 4; i++) {
            Bounds.due("an end", x.typeAt(0, 1, 0, 1, i), 5);
        }
        // Either may be NIL, and either may be something else.
        Bounds.taken("record 0\nfunction : 2 0\n NIL\n RETURN\nfunction : 2 0\n PUSH 1\n ROW\n RETURN\n");
        Bounds.taken("record 0\nfunction : 3.0 0\n NIL\n RETURN\nfunction : 3.0 0\n PUSH 1\n ROWS 0\n RETURN\n");
        int[] crossed = Asm.module("record 0\nfunction : 2 0\n PUSH 1\n ROWS 0\n RETURN\n");
        Bounds.refused(crossed, 2, crossed.length - 8);
    }

    private static void names() {
        Bounds.says("Each (numbers ahead of it tell what begins it;");
        Bounds.due("instructions", Asm.NAMES.size(), 44);
        for (int op = 0; op < Asm.NAMES.size(); op++) {
            Bounds.says(op + " " + Asm.NAMES.get(op));
        }
        Bounds.refused(new int[] {83, 77, 0, 0, 1, 0, 255, 0, 1, 44}, 1, 9);
    }

    /** The instruction by its number, not by its name. */
    private static int ofTwo(int op, int a, int b) {
        SealedProcesses x = new SealedProcesses();
        int[] head = {83, 77, 0, 0, 1, 0, 255, 0, 12, 0};
        Check.load(x, Asm.join(head, Asm.word(a), new int[] {0}, Asm.word(b), new int[] {op, 42}));
        Check.boot(x, Asm.process(0, 0, 1));
        x.run(3);
        Bounds.due("one is left of two", x.process(0, 6), 1);
        return x.value(0, 0, 0);
    }

    private static void numbersOfTwoInts() {
        Bounds.says("7 ADD, 8 SUB, 9 MUL, 10 DIV (cut towards 0), 11 REM (the rest that belongs to DIV), "
            + "12 AND, 13 OR, 14 XOR, 15 SHL, 16 SHR (with the sign; both by the lowest five bits), 17 LESS, 18 SAME:");
        int[] want = {104, 98, 303, 33, 2, 1, 103, 102, 808, 12, 0, 0};
        for (int op = 7; op <= 18; op++) {
            Bounds.due("101 and 3 by instruction " + op, ofTwo(op, 101, 3), want[op - 7]);
        }
        int[] turned = {104, -98, 303, 0, 3, 1, 103, 102, 96, 0, 1, 0};
        for (int op = 7; op <= 18; op++) {
            Bounds.due("3 and 101 by instruction " + op, ofTwo(op, 3, 101), turned[op - 7]);
        }
        Bounds.due("5 and 5 by instruction 18", ofTwo(18, 5, 5), 1);
    }

    private static void plainInstructions() {
        Bounds.says("0 PUSH K: an INT. 1 NIL: NIL.");
        SealedProcesses x = Bounds.alone("", "PUSH 5, NIL, EXIT");
        Bounds.run(x, 2);
        Bounds.dueAll("types", new int[] {x.typeAt(0, 0, 6, 0, 0), x.typeAt(0, 0, 6, 0, 1)}, 0, 6);
        Bounds.dueAll("values", new int[] {x.value(0, 0, 0), x.value(0, 0, 1)}, 5, 0);
        Bounds.says("41 YIELD. 42 EXIT. 43 OUT: an INT goes.");
        x = Bounds.booted("function : none 0\n YIELD\n PUSH 9\n OUT\n EXIT\n",
            Asm.process(0, 0, 1), Asm.process(0, 0, 1));
        Bounds.run(x, 2);
        Bounds.dueAll("a YIELD each", new int[] {x.process(0, 9), x.process(1, 9)}, 1, 1);
        Bounds.run(x, 2);
        Bounds.dueAll("OUT, and it goes", new int[] {x.output(0, 0), x.output(0, 1), x.process(0, 6)}, 0, 9, 0);
        Bounds.run(x, 1);
        Bounds.dueAll("EXIT", new int[] {x.process(0, 0), x.process(1, 0), x.about(2)}, 4, 1, 1);
    }

    private static void freed() {
        Bounds.says("35 FREE: a block goes.");
        SealedProcesses x = Bounds.alone(CONTRACT, "BLOCK 0, BLOCK 0, FREE, EXIT");
        Bounds.run(x, 2);
        Bounds.dueAll("two blocks", new int[] {x.about(4), x.about(5), x.block(1, 0)}, 2, 6, 2);
        Bounds.run(x, 1);
        Bounds.dueAll("the higher went", new int[] {x.about(4), x.about(5), x.block(0, 0), x.block(1, 0)}, 1, 3, 2, -1);
        Bounds.due("from the stack too", x.process(0, 6), 1);
    }

    private static void sent() {
        Bounds.says("37 SEND t: an end whose turn it is, and above it the load of message t of its state, if that has "
            + "one: the end in the state then.");
        SealedProcesses x = Bounds.alone(CONTRACT, "CHANNEL 0, STORE 0, BLOCK 0, SEND 0, EXIT");
        Bounds.run(x, 4);
        Bounds.dueAll("the end alone is left", new int[] {x.process(0, 6), x.value(0, 0, 0)}, 1, 0);
        Bounds.dueAll("in the state then", Probe.end(x, 0, 0), 1, 0, 0);
        Bounds.dueAll("the other waits", Probe.end(x, 0, 1), 0, 0, 1);
        Bounds.due("the load waits", x.block(0, 1), 101);
        x = Bounds.alone(CONTRACT, "CHANNEL 0, STORE 0, SEND 1, EXIT");
        Bounds.run(x, 3);
        Bounds.dueAll("without a load", Probe.end(x, 0, 0), 2, 0, 0);
        Bounds.due("of the message", x.channel(0, 1, 2), 1);
    }

    private static void turnsByType() {
        Bounds.says("The two ends of SEND and RECEIVE's turns are by their type's state and side.");
        int[][] ends = {{0, 0}, {0, 1}, {1, 0}, {1, 1}, {2, 0}, {2, 1}};
        for (int[] end : ends) {
            String type = "5.0." + end[0] + "." + end[1];
            boolean sends = end[0] == 0 && end[1] == 0;
            boolean receives = end[0] == 1 && end[1] == 0;
            boolean closes = end[0] == 2;
            dueRight(type, "LOAD 0, SEND 1, EXIT", sends);
            dueRight(type, "LOAD 0, PUSH 1, SEND 0, EXIT", end[0] == 1 && end[1] == 1);
            dueRight(type, "LOAD 0, RECEIVE got, got: EXIT", receives);
            dueRight(type, "LOAD 0, RECEIVE one two, one: EXIT, two: EXIT", end[0] == 0 && end[1] == 1);
            dueRight(type, "LOAD 0, CLOSE, EXIT", closes);
        }
    }

    private static void dueRight(String type, String code, boolean right) {
        SealedProcesses x = new SealedProcesses();
        Check.load(x, CONTRACT + "function " + type + " : none 1\n" + Bounds.lines(code));
        Bounds.due(code + " of " + type + ": fault", x.fault(0), right ? 0 : 2);
    }

    private static void nodesAndRows() {
        Bounds.says("of GET, PUT a node, of LENGTH, TAKE, LAY a row;");
        String[] types = {"0", "1.0", "2", "3.0", "4.1", "5.0.0.0"};
        String head = "record 0 1.0\nrecord 0\ncontract\n  state nobody\n";
        for (int kind = 0; kind < 6; kind++) {
            String function = "function " + types[kind] + " : none 1\n";
            boolean isRow = kind == 2 || kind == 3;
            dueFault(head + function + Bounds.lines("LOAD 0, GET 0, EXIT"), kind == 1);
            dueFault(head + function + Bounds.lines("LOAD 0, PUSH 1, PUT 0, EXIT"), kind == 1);
            dueFault(head + function + Bounds.lines("LOAD 0, LENGTH, EXIT"), isRow);
            dueFault(head + function + Bounds.lines("LOAD 0, PUSH 0, TAKE, EXIT"), isRow);
            dueFault(head + function + Bounds.lines("LOAD 0, PUSH 0, PUSH 1, LAY, EXIT"), kind == 2);
            dueFault(head + function + Bounds.lines("LOAD 0, PUSH 0, NEW 0, LAY, EXIT"), kind == 3);
            dueFault(head + function + Bounds.lines("LOAD 0, PUSH 0, NEW 1, LAY, EXIT"), false);
        }
    }

    private static void dueFault(String text, boolean right) {
        SealedProcesses x = new SealedProcesses();
        Check.load(x, text);
        Bounds.due(text + ": fault", x.fault(0), right ? 0 : 2);
    }

    private static void places() {
        Bounds.says("FAULTS: 1, with its place (how many bytes are ahead):");
        int[] bytes = Asm.module(CONTRACT + "function 0 5.0.0.1 : none 2\n"
            + Bounds.lines("PUSH 1, ZERO e, e: LOAD 1, RECEIVE one two, one: FREE, two: EXIT"));
        // Not right (the two come together unlike), so that each shorter one has its fault at its end.
        for (int n = 0; n < bytes.length; n++) {
            SealedProcesses x = new SealedProcesses();
            Check.feed(x, bytes);
            Bounds.due("load(" + n + ")", x.load(n), Check.NONE);
            Bounds.dueFault("the end, " + n, x, 1, n);
        }
        Bounds.refused(bytes, 2, bytes.length - 15);
    }

    private static void allActivations() {
        Bounds.says("when all that its stack, locals (of all activations;");
        String head = "record 0 0 0 0\n";
        // Of 16 cells the first activation's stack and local hold five each.
        SealedProcesses x = Bounds.booted(head + "function : none 1\n NEW 0\n STORE 0\n NEW 0\n CALL 1\n EXIT\n"
            + "function : none 1\n NEW 0\n STORE 0\n NEW 0\n EXIT\n", Asm.process(0, 0, 1));
        Bounds.run(x, 6);
        Bounds.dueAll("three are reached", new int[] {x.process(0, 5), x.process(0, 6), x.process(0, 7)}, 2, 0, 15);
        Bounds.run(x, 1);
        Bounds.dueAll("no room for a fourth", new int[] {x.process(0, 0), x.process(0, 1)}, 5, 5);
    }
}
