/** Asks an object for rows of answers. */
final class Probe {
    private Probe() {
    }

    static int[] about(SealedProcesses x) {
        int[] row = new int[7];
        for (int what = 0; what < 7; what++) {
            row[what] = x.about(what);
        }
        return row;
    }

    static int[] process(SealedProcesses x, int p) {
        int[] row = new int[10];
        for (int what = 0; what < 10; what++) {
            row[what] = x.process(p, what);
        }
        return row;
    }

    static int[] end(SealedProcesses x, int channel, int side) {
        return new int[] {x.channel(channel, side, 0), x.channel(channel, side, 1), x.channel(channel, side, 2)};
    }
}
