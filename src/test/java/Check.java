/** Counts answers that are not as due, and feeds bytes. */
final class Check {
    static final int NONE = SealedProcesses.NONE;

    private static int wrong;
    private static int asked;

    private Check() {
    }

    static void due(String what, long got, long want) {
        asked++;
        if (got != want) {
            wrong++;
            System.out.println(what + " answered " + got + ", due is " + want);
        }
    }

    static void due(String what, boolean got, boolean want) {
        due(what, got ? 1 : 0, want ? 1 : 0);
    }

    /** Ends the program, with 1 if an answer was wrong. */
    static void end() {
        System.out.println(asked + " answers, " + wrong + " not as due");
        if (wrong != 0) {
            System.exit(1);
        }
    }

    static void feed(SealedProcesses x, int[] bytes) {
        int[] padded = java.util.Arrays.copyOf(bytes, (bytes.length + 19) / 20 * 20);
        for (int i = 0; i < padded.length; i += 20) {
            x.feed(number(padded, i), number(padded, i + 4), number(padded, i + 8), number(padded, i + 12),
                number(padded, i + 16));
        }
    }

    private static int number(int[] bytes, int i) {
        return bytes[i] << 24 | bytes[i + 1] << 16 | bytes[i + 2] << 8 | bytes[i + 3];
    }

    static int load(SealedProcesses x, int[] bytes) {
        feed(x, bytes);
        return x.load(bytes.length);
    }

    static int load(SealedProcesses x, String text) {
        return load(x, Asm.module(text));
    }

    static int boot(SealedProcesses x, int[]... processes) {
        return bootBytes(x, Asm.manifest(processes));
    }

    static int bootBytes(SealedProcesses x, int[] bytes) {
        feed(x, bytes);
        return x.boot(bytes.length);
    }

    /** A new object with the module on its shelf; says so if the module is refused. */
    static SealedProcesses withModule(String text) {
        SealedProcesses x = new SealedProcesses();
        due("load of " + text, load(x, text), 0);
        if (x.fault(0) != 0) {
            System.out.println("  fault " + x.fault(0) + " at " + x.fault(1));
        }
        return x;
    }

    static void dueFault(String what, SealedProcesses x, int kind, int place) {
        due(what + ": fault(0)", x.fault(0), kind);
        due(what + ": fault(1)", x.fault(1), place);
    }
}
