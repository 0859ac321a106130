/** What every test uses: it compares answers, prints those that are not due, and ends with exit code 1 if there was one. */
final class Check {
    static final int NUMBER = 0, FORK = 1, EXIT = 2, WAIT = 3, READ = 4, WRITE = 5, MAKE = 6, REMOVE = 7, GIVE = 8,
            USER = 9, POWERS = 10, KILL = 11, MOUNT = 12, UNMOUNT = 13, FILTER = 14, SEND = 15, TAKE = 16, LOOK = 17;
    static final int DIRECTORY = 0, FILE = 1, UP = 15;
    static final int LEAST = Integer.MIN_VALUE, MOST = Integer.MAX_VALUE;

    private static int checked = 0;
    private static int wrong = 0;

    private Check() {
    }

    static void due(String what, int want, int got) {
        checked++;
        if (got != want) {
            wrong++;
            System.out.println(what + ": answered " + got + ", due is " + want);
        }
    }

    static void due(String what, boolean want, boolean got) {
        due(what, want ? 1 : 0, got ? 1 : 0);
    }

    static void end() {
        System.out.println(checked + " answers, " + wrong + " not as due");
        if (wrong != 0 || checked == 0) {
            System.exit(1);
        }
    }

    static int path(int... names) {
        int path = 0;
        for (int i = 0; i < names.length; i++) {
            path |= names[i] << (4 * i);
        }
        return path;
    }

    /** A kernel with cage 0 over the whole tree, host users 0..255, the highest limits, and PROCESS 0 with these powers. */
    static CageKernel oneCage(int powers) {
        CageKernel k = new CageKernel();
        due("cage", 0, k.cage(0, 0, 256, -1, 255));
        due("start", 0, k.start(0, powers, -1));
        return k;
    }

    /** FILTER f of one step. */
    static void giveAlways(CageKernel k, int f, int what) {
        k.wipe(f);
        due("a filter of one step", 1, k.step(f, 7, what, 0));
    }
}
