import java.io.IOException;
import java.nio.file.Files;
import java.nio.file.Path;
import java.util.Arrays;

/** What the tests of bounds share: the document's own words, and both sides of a bound. */
final class Bounds {
    private static String document = "";
    private static String words = "";

    private Bounds() {
    }

    /** The project's root is the first argument; the document stands beside it. */
    static void open(String[] args) throws IOException {
        Path path = Path.of(args.length > 0 ? args[0] : ".").toAbsolutePath().normalize();
        Path doc = path.resolveSibling("shared").resolve("DOC.md");
        document = Files.exists(doc) ? plain(Files.readString(doc)) : "";
        if (document.isEmpty()) {
            System.out.println("no document at " + doc + ": its words are not compared");
        }
    }

    private static String plain(String text) {
        return text.replaceAll("\\s+", " ");
    }

    /** The sentence that the next answers belong to, as the document has it. */
    static void says(String sentence) {
        words = sentence;
        Check.due("the document's words: " + sentence, document.isEmpty() || document.contains(plain(sentence)), true);
    }

    static void due(String what, long got, long want) {
        Check.due("\"" + words + "\": " + what, got, want);
    }

    static void due(String what, boolean got, boolean want) {
        due(what, got ? 1 : 0, want ? 1 : 0);
    }

    /** A list of answers; the first that is not as due tells where. */
    static void dueAll(String what, int[] got, int... want) {
        int place = Arrays.mismatch(got, want);
        due(what + ": first answer that differs, of " + Arrays.toString(got), place, -1);
    }

    static void dueFault(String what, SealedProcesses x, int kind, int place) {
        due(what + ": fault(0)", x.fault(0), kind);
        due(what + ": fault(1)", x.fault(1), place);
    }

    static void taken(String text) {
        taken(Asm.module(text));
    }

    static void taken(int[] bytes) {
        SealedProcesses x = new SealedProcesses();
        String what = "taken " + Arrays.toString(bytes);
        due(what, Check.load(x, bytes), 0);
        dueFault(what, x, 0, Check.NONE);
        due(what + ": its bytes", x.module(0, 0, 3), bytes.length);
    }

    static void refused(int[] bytes, int kind, int place) {
        SealedProcesses x = new SealedProcesses();
        String what = "refused " + Arrays.toString(bytes);
        due(what, Check.load(x, bytes), Check.NONE);
        dueFault(what, x, kind, place);
        due(what + ": not on the shelf", x.module(0, 0, 3), Check.NONE);
    }

    /** Both sides of a bound: the fault is at the first byte in which they differ. */
    static void edge(String taken, String refused) {
        int[] good = Asm.module(taken);
        int[] bad = Asm.module(refused);
        taken(good);
        refused(bad, 1, Arrays.mismatch(good, bad));
    }

    static int[] with(int[] bytes, int place, int number) {
        int[] changed = bytes.clone();
        changed[place] = number;
        return changed;
    }

    /** A new object with such a module on its shelf, booted with such processes. */
    static SealedProcesses booted(String text, int[]... processes) {
        SealedProcesses x = new SealedProcesses();
        due("load of " + text, Check.load(x, text), 0);
        due("boot of " + text, Check.boot(x, processes), processes.length);
        return x;
    }

    /** The code of one function without parameters and with four locals, in a process with a heap of 16 cells. */
    static SealedProcesses alone(String head, String code) {
        return booted(head + "function : none 4\n" + lines(code), Asm.process(0, 0, 1));
    }

    /** Code that stands in one line, with commas. */
    static String lines(String code) {
        return code.replace(", ", "\n") + "\n";
    }

    static void run(SealedProcesses x, int steps) {
        due("run(" + steps + ")", x.run(steps), steps);
    }
}
