import java.util.ArrayList;
import java.util.Arrays;
import java.util.HashMap;
import java.util.List;
import java.util.Map;

/**
 * Builds modules and manifests as bytes.
 *
 * <p>A module's text has a line for each part:
 * <pre>
 * record 0 1.0             fields: types, written as the type's numbers with dots
 * contract                 its states follow
 *   state client 4.0>1     whose turn it is (nobody, client, server, or a number); each message: load>next
 *   state server none>0
 * function 0 5.0.0.1 : none 3    parameters : result, how many locals; its code follows
 *   here: LOAD 0           a label may stand ahead of an instruction
 *   JUMP here
 * </pre>
 */
final class Asm {
    static final List<String> NAMES = Arrays.asList(
        "PUSH", "NIL", "LOAD", "STORE", "POP", "DUP", "SWAP", "ADD", "SUB", "MUL", "DIV", "REM", "AND", "OR", "XOR",
        "SHL", "SHR", "LESS", "SAME", "NONE", "JUMP", "ZERO", "NEW", "GET", "PUT", "ROW", "ROWS", "LENGTH", "TAKE",
        "LAY", "CALL", "RETURN", "BLOCK", "SEE", "SET", "FREE", "CHANNEL", "SEND", "RECEIVE", "CLOSE", "SPAWN",
        "YIELD", "EXIT", "OUT");

    private final List<List<Integer>> records = new ArrayList<>();
    private final List<List<Integer>> contracts = new ArrayList<>();
    private final List<List<Integer>> functions = new ArrayList<>();
    private final List<Integer> code = new ArrayList<>();
    private final Map<String, Integer> labels = new HashMap<>();
    private final Map<Integer, String> holes = new HashMap<>();
    private boolean inFunction;

    private Asm() {
    }

    /** The bytes of a module that is written as text. */
    static int[] module(String text) {
        Asm asm = new Asm();
        for (String line : text.split("\n")) {
            String[] words = line.trim().split("\\s+");
            if (!words[0].isEmpty()) {
                asm.line(words);
            }
        }
        return asm.finish();
    }

    /** The bytes of a manifest: each process as {module, function, S, parameters}. */
    static int[] manifest(int[]... processes) {
        List<Integer> bytes = new ArrayList<>(List.of(83, 70, processes.length));
        for (int[] process : processes) {
            for (int b : process) {
                bytes.add(b);
            }
        }
        return row(bytes);
    }

    static int[] process(int module, int function, int size, int... parameters) {
        int[] all = new int[3 + parameters.length];
        all[0] = module;
        all[1] = function;
        all[2] = size;
        System.arraycopy(parameters, 0, all, 3, parameters.length);
        return all;
    }

    static int[] word(int k) {
        return new int[] {k >>> 24, k >>> 16 & 255, k >>> 8 & 255, k & 255};
    }

    static int[] join(int[]... rows) {
        return Arrays.stream(rows).flatMapToInt(Arrays::stream).toArray();
    }

    private void line(String[] words) {
        switch (words[0]) {
            case "record":
                List<Integer> fields = new ArrayList<>(List.of(words.length - 1));
                for (int i = 1; i < words.length; i++) {
                    addType(fields, words[i]);
                }
                records.add(fields);
                break;
            case "contract":
                contracts.add(new ArrayList<>(List.of(0)));
                break;
            case "state":
                addState(contracts.get(contracts.size() - 1), words);
                break;
            case "function":
                endFunction();
                beginFunction(words);
                break;
            default:
                addInstruction(words);
                break;
        }
    }

    private static void addType(List<Integer> bytes, String type) {
        for (String number : type.replace("none", "255").split("\\.")) {
            bytes.add(Integer.parseInt(number));
        }
    }

    private static void addState(List<Integer> contract, String[] words) {
        contract.set(0, contract.get(0) + 1);
        int turn = List.of("nobody", "client", "server").indexOf(words[1]);
        contract.add(turn >= 0 ? turn : Integer.parseInt(words[1]));
        contract.add(words.length - 2);
        for (int i = 2; i < words.length; i++) {
            String[] message = words[i].split(">");
            addType(contract, message[0]);
            contract.add(Integer.parseInt(message[1]));
        }
    }

    private void beginFunction(String[] words) {
        List<Integer> function = new ArrayList<>();
        int colon = Arrays.asList(words).indexOf(":");
        function.add(colon - 1);
        for (int i = 1; i < colon; i++) {
            addType(function, words[i]);
        }
        addType(function, words[colon + 1]);
        function.add(Integer.parseInt(words[colon + 2]));
        functions.add(function);
        inFunction = true;
    }

    private void endFunction() {
        if (!inFunction) {
            return;
        }
        holes.forEach((place, label) -> code.set(place, labels.get(label)));
        List<Integer> function = functions.get(functions.size() - 1);
        function.add(code.size());
        function.addAll(code);
        code.clear();
        labels.clear();
        holes.clear();
    }

    private void addInstruction(String[] words) {
        int first = 0;
        if (words[0].endsWith(":")) {
            labels.put(words[0].substring(0, words[0].length() - 1), code.size());
            first = 1;
            if (words.length == 1) {
                return;
            }
        }
        int op = NAMES.indexOf(words[first]);
        if (op < 0) {
            throw new IllegalArgumentException(words[first]);
        }
        code.add(op);
        if (op == 38) {
            code.add(words.length - first - 1);
        }
        for (int i = first + 1; i < words.length; i++) {
            if (op == 0) {
                for (int b : word(Integer.parseInt(words[i]))) {
                    code.add(b);
                }
            } else if (Character.isLetter(words[i].charAt(0))) {
                holes.put(code.size(), words[i]);
                code.add(0);
            } else {
                code.add(Integer.parseInt(words[i]));
            }
        }
    }

    private int[] finish() {
        endFunction();
        List<Integer> all = new ArrayList<>(List.of(83, 77, records.size()));
        records.forEach(all::addAll);
        all.add(contracts.size());
        contracts.forEach(all::addAll);
        all.add(functions.size());
        functions.forEach(all::addAll);
        return row(all);
    }

    static int[] row(List<Integer> bytes) {
        return bytes.stream().mapToInt(Integer::intValue).toArray();
    }
}
