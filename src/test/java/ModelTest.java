import java.util.ArrayList;
import java.util.Arrays;
import java.util.List;
import java.util.Random;

/**
 * Compares the class with the model in runs that chance makes, the same ones each time: all promises.
 *
 * <p>Arguments: the project's folder, and, for a longer search by hand, the first seed and how many.
 */
public final class ModelTest {
    private final Random chance;
    private final SealedProcesses x = new SealedProcesses();
    private final Model y = new Model();
    private final List<String> calls = new ArrayList<>();
    private boolean wrong;
    private static final long[] HAPPENED = new long[6];
    private static final long[] TRAPS = new long[11];

    private ModelTest(long seed) {
        chance = new Random(seed);
    }

    public static void main(String[] args) {
        long first = args.length > 2 ? Long.parseLong(args[1]) : 1;
        long count = args.length > 2 ? Long.parseLong(args[2]) : 600;
        for (long seed = first; seed < first + count; seed++) {
            ModelTest test = new ModelTest(seed);
            test.life();
            if (test.wrong) {
                test.calls.forEach(call -> System.out.println("  " + call));
            }
            Check.due("seed " + seed + " differs", test.wrong, false);
            if (test.wrong) {
                break;
            }
        }
        System.out.println("loaded, refused 1, 2: " + HAPPENED[0] + ", " + HAPPENED[1] + ", " + HAPPENED[2]
            + "; booted, refused: " + HAPPENED[3] + ", " + HAPPENED[4] + "; steps " + HAPPENED[5]);
        System.out.println("over, and by trap 1 to 10: " + Arrays.toString(TRAPS));
        Check.end();
    }

    private void same(String call, long got, long want) {
        calls.add(call + " = " + got);
        if (got != want) {
            calls.add("  the model says " + want);
            wrong = true;
        }
        if (calls.size() > 400) {
            calls.subList(0, 100).clear();
        }
    }

    private void feed(int[] bytes) {
        int[] padded = Arrays.copyOf(bytes, (bytes.length + 19) / 20 * 20);
        for (int i = 0; i < padded.length; i += 20) {
            int[] n = new int[5];
            for (int j = 0; j < 20; j++) {
                n[j / 4] = n[j / 4] << 8 | padded[i + j];
            }
            same("feed", x.feed(n[0], n[1], n[2], n[3], n[4]), y.feed(n[0], n[1], n[2], n[3], n[4]));
        }
    }

    private void life() {
        int rounds = 2 + chance.nextInt(5);
        for (int round = 0; round < rounds && !wrong; round++) {
            load(Maker.module(chance));
            for (int i = 0; i < 3 && !wrong; i++) {
                load(Maker.spoilt(Maker.module(chance), chance));
            }
            if (chance.nextInt(4) == 0) {
                int m = chance.nextInt(8) - 1;
                same("discard " + m, x.discard(m) ? 1 : 0, y.discard(m) ? 1 : 0);
            }
            compareModules();
            wildCalls();
            for (int i = 0; i < 2 && !wrong; i++) {
                boot();
                wildCalls();
                if (x.about(0) != Check.NONE) {
                    runSome();
                    wildCalls();
                }
            }
        }
    }

    private static final int[] WILD = {Integer.MIN_VALUE, Integer.MIN_VALUE + 1, -1000000, -101, -2, -1, 0, 1, 2, 3, 5,
        6, 7, 9, 10, 11, 12, 13, 14, 15, 16, 17, 23, 24, 26, 100, 127, 128, 239, 240, 255, 256, 499, 500, 501, 1999,
        2000, 2001, 10001, 1 << 16, 1 << 30, Integer.MAX_VALUE - 1, Integer.MAX_VALUE};

    private int wild() {
        return WILD[chance.nextInt(WILD.length)];
    }

    /** Calls with whatever arguments: none of them throws, and most change nothing. */
    private void wildCalls() {
        for (int i = 0; i < 60 && !wrong; i++) {
            int a = wild();
            int b = wild();
            int c = wild();
            int m = chance.nextInt(8) - 1;
            int f = chance.nextInt(6) - 1;
            String args = " " + a + " " + b + " " + c + " " + m + " " + f;
            same("wild fault" + args, x.fault(a), y.fault(a));
            same("wild module" + args, x.module(m, a, b), y.module(m, a, b));
            same("wild module" + args, x.module(a, b, c), y.module(a, b, c));
            same("wild typeAt" + args, x.typeAt(m, f, a, b, c), y.typeAt(m, f, a, b, c));
            same("wild typeAt" + args, x.typeAt(m, a, f, 1, b), y.typeAt(m, a, f, 1, b));
            same("wild about" + args, x.about(a), y.about(a));
            same("wild process" + args, x.process(a, b), y.process(a, b));
            same("wild process" + args, x.process(m, b), y.process(m, b));
            same("wild value" + args, x.value(a, b, c), y.value(a, b, c));
            same("wild value" + args, x.value(m, f, c), y.value(m, f, c));
            same("wild block" + args, x.block(a, b), y.block(a, b));
            same("wild block" + args, x.block(m, b), y.block(m, b));
            same("wild channel" + args, x.channel(a, b, c), y.channel(a, b, c));
            same("wild channel" + args, x.channel(m, f, c), y.channel(m, f, c));
            same("wild output" + args, x.output(a, b), y.output(a, b));
            if (a < 0 || a > 10000) {
                same("wild run" + args, x.run(a), y.run(a));
            }
            if (chance.nextInt(30) == 0) {
                same("wild load" + args, x.load(a), y.load(a));
                same("wild boot" + args, x.boot(b), y.boot(b));
                same("wild discard" + args, x.discard(c) ? 1 : 0, y.discard(c) ? 1 : 0);
                same("wild feed" + args, x.feed(a, b, c, a, b), y.feed(a, b, c, a, b));
                same("wild load" + args, x.load(20), y.load(20));
            }
        }
    }

    private void load(int[] bytes) {
        if (bytes.length > 2000) {
            return;
        }
        feed(bytes);
        if (chance.nextInt(20) == 0) {
            same("load -1", x.load(-1), y.load(-1));
            same("load 2001", x.load(2001), y.load(2001));
        }
        same("load " + Arrays.toString(bytes), x.load(bytes.length), y.load(bytes.length));
        compareFault();
        HAPPENED[Math.max(0, Math.min(2, x.fault(0)))]++;
    }

    private void compareFault() {
        for (int what = -1; what < 3; what++) {
            same("fault " + what, x.fault(what), y.fault(what));
        }
    }

    private void compareModules() {
        for (int m = -1; m <= 6; m++) {
            for (int what = -1; what < 17; what++) {
                int f = chance.nextInt(12) - 1;
                same("module " + m + " " + f + " " + what, x.module(m, f, what), y.module(m, f, what));
            }
            for (int f = 0; f < y.module(m, 0, 2) && !wrong; f++) {
                compareTypes(m, f);
            }
        }
    }

    private void compareTypes(int m, int f) {
        for (int place = -1; place <= y.module(m, f, 12) && !wrong; place++) {
            for (int i = -1; i <= 10; i++) {
                same("typeAt " + m + " " + f + " " + place + " 0 " + i, x.typeAt(m, f, place, 0, i),
                    y.typeAt(m, f, place, 0, i));
                same("typeAt " + m + " " + f + " " + place + " 1 " + i, x.typeAt(m, f, place, 1, i),
                    y.typeAt(m, f, place, 1, i));
            }
        }
    }

    private void boot() {
        int[] bytes = manifest();
        for (int tries = 0; tries < 30 && !isBootable(bytes); tries++) {
            bytes = manifest();
        }
        if (chance.nextInt(5) == 0) {
            bytes = Maker.spoilt(bytes, chance);
        }
        feed(bytes);
        same("boot " + Arrays.toString(bytes), x.boot(bytes.length), y.boot(bytes.length));
        compareFault();
        HAPPENED[x.fault(0) == 0 ? 3 : 4]++;
    }

    private boolean isBootable(int[] bytes) {
        Model trial = new Model();
        System.arraycopy(y.shelf, 0, trial.shelf, 0, 6);
        for (int i = 0; i < bytes.length; i += 20) {
            int[] n = new int[5];
            for (int j = 0; j < 20; j++) {
                n[j / 4] = n[j / 4] << 8 | (i + j < bytes.length ? bytes[i + j] : 0);
            }
            trial.feed(n[0], n[1], n[2], n[3], n[4]);
        }
        return trial.boot(bytes.length) > 0;
    }

    private int[] manifest() {
        List<Integer> bytes = new ArrayList<>();
        int count = 1 + chance.nextInt(6);
        // Numbers that wait for their other use, each with its contract and the side it wants.
        List<int[]> open = new ArrayList<>();
        int numbers = 0;
        for (int p = 0; p < count; p++) {
            int m = chance.nextInt(6);
            for (int i = 0; i < 6 && y.shelf[m] == null; i++) {
                m = (m + 1) % 6;
            }
            if (y.shelf[m] == null) {
                return new int[] {83, 70, 1, m, 0, 1};
            }
            int f = chance.nextInt(y.shelf[m].functions.size());
            bytes.addAll(List.of(m, f, chance.nextInt(3) > 0 ? 1 + chance.nextInt(3) : 1 + chance.nextInt(64)));
            for (Model.Type type : y.shelf[m].functions.get(f).params) {
                if (type.kind() == 0) {
                    for (int b : Asm.word(chance.nextInt(12) - 2)) {
                        bytes.add(b);
                    }
                } else {
                    numbers = addNumber(bytes, open, numbers, new int[] {m, type.a(), 1 - type.side(), 0});
                }
            }
        }
        bytes.addAll(0, List.of(83, 70, count));
        return Asm.row(bytes);
    }

    private static int addNumber(List<Integer> bytes, List<int[]> open, int numbers, int[] use) {
        for (int i = 0; i < open.size(); i++) {
            int[] other = open.get(i);
            if (other[1] == use[1] && other[2] != use[2]) {
                bytes.add(other[3]);
                open.remove(i);
                return numbers;
            }
        }
        use[3] = Math.min(numbers, 7);
        open.add(use);
        bytes.add(use[3]);
        return numbers + 1;
    }

    private void runSome() {
        for (int i = 0; i < 12 && !wrong; i++) {
            int n = i < 8 ? chance.nextInt(1 << chance.nextInt(8)) : chance.nextInt(1500);
            if (chance.nextInt(50) == 0) {
                n = chance.nextInt(3) - 1;
            }
            int done = x.run(n);
            same("run " + n, done, y.run(n));
            HAPPENED[5] += Math.max(0, done);
            compareState();
        }
        for (int p = 0; p < 12; p++) {
            if (x.process(p, 0) >= 4) {
                TRAPS[x.process(p, 1)]++;
            }
        }
    }

    private void compareState() {
        for (int what = -1; what <= 7; what++) {
            same("about " + what, x.about(what), y.about(what));
        }
        for (int p = -1; p <= 12 && !wrong; p++) {
            for (int what = -1; what <= 10; what++) {
                same("process " + p + " " + what, x.process(p, what), y.process(p, what));
            }
            for (int i = -1; i <= 16 && x.process(p, 0) > 0; i++) {
                for (int what = -1; what <= 2; what++) {
                    same("value " + p + " " + what + " " + i, x.value(p, what, i), y.value(p, what, i));
                }
            }
        }
        int blocks = Math.min(129, x.about(4) + 3);
        for (int b = -1; b <= blocks && !wrong; b++) {
            for (int what = -1; what <= 16; what++) {
                same("block " + b + " " + what, x.block(b, what), y.block(b, what));
            }
        }
        for (int c = -1; c <= 12 && !wrong; c++) {
            for (int side = -1; side <= 2; side++) {
                for (int what = -1; what <= 3; what++) {
                    same("channel " + c + " " + side + " " + what, x.channel(c, side, what),
                        y.channel(c, side, what));
                }
            }
        }
        for (int i = Math.max(-1, x.about(6) - 20); i <= x.about(6) && !wrong; i++) {
            for (int what = -1; what <= 2; what++) {
                same("output " + i + " " + what, x.output(i, what), y.output(i, what));
            }
        }
    }
}
