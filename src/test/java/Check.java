import java.util.function.IntUnaryOperator;

/** What every test uses: it compares answers, prints those that are not due, and ends with 1 if there was one. */
final class Check {
    static final int NUMBER = 0, FORK = 1, EXIT = 2, WAIT = 3, READ = 4, WRITE = 5, MAKE = 6, REMOVE = 7, GIVE = 8,
            USER = 9, POWERS = 10, KILL = 11, MOUNT = 12, UNMOUNT = 13, FILTER = 14, SEND = 15, TAKE = 16, LOOK = 17;
    static final int DIRECTORY = 0, FILE = 1, UP = 15;
    static final int LEAST = Integer.MIN_VALUE, MOST = Integer.MAX_VALUE;

    private static String sentence = "";
    private static int checked = 0;
    private static int wrong = 0;

    private Check() {
    }

    /** The sentence of the document, by its words, that the next answers belong to, and its promise. */
    static void sentence(int promise, String words) {
        sentence = "promise " + promise + ", " + words + ": ";
    }

    static void due(String what, int want, int got) {
        checked++;
        if (got != want) {
            wrong++;
            System.out.println(sentence + what + ": answered " + got + ", due is " + want);
        }
    }

    static void due(String what, boolean want, boolean got) {
        due(what, want ? 1 : 0, got ? 1 : 0);
    }

    /** The same answer is due for each of the values. */
    static void each(String what, int want, IntUnaryOperator call, int... values) {
        for (int value : values) {
            due(what + " " + value, want, call.applyAsInt(value));
        }
    }

    /** The answer is due for ints that are not from..to: near and far ones, and some whose lowest bits are in range. */
    static void outside(String what, int from, int to, int want, IntUnaryOperator call) {
        each(what, want, call, from - 1, to + 1, from - 256, to + 256, from + 65536, from + LEAST, LEAST, MOST);
    }

    /** What is seen of a thing with what 0, 1, 2, .. */
    static void row(String thing, IntUnaryOperator look, int... due) {
        for (int what = 0; what < due.length; what++) {
            due(thing + ", what " + what, due[what], look.applyAsInt(what));
        }
    }

    static void end() {
        System.out.println(checked + " answers, " + wrong + " not as due");
        if (wrong != 0 || checked == 0) {
            System.exit(1);
        }
    }

    static int path(int... names) {
        int path = 0;
        for (int i = 0; i < names.length; i++) {
            path |= names[i] << (4 * i);
        }
        return path;
    }

    /** A kernel with cage 0 over all NODES and host users, the highest limits, and PROCESS 0 with these powers. */
    static CageKernel oneCage(int powers) {
        CageKernel k = new CageKernel();
        due("cage", 0, k.cage(0, 0, 256, -1, 255));
        due("start", 0, k.start(0, powers, -1));
        return k;
    }

    /** FILTER f of one step. */
    static void giveAlways(CageKernel k, int f, int what) {
        k.wipe(f);
        due("a filter of one step", 1, k.step(f, 7, what, 0));
    }

    /** FILES of host user 0 in these DIRECTORIES, one after another, by their least free NAMES, until NODES run out. */
    static void fillNodes(CageKernel k, int... directories) {
        for (int in : directories) {
            for (int name = 1; name <= 14; name++) {
                k.node(in, name, FILE, 0);
            }
        }
        due("all nodes are there", 32, k.count(0));
    }

    /** A kernel whose NODES are all there; DIRECTORY 2 has the FILES 1, 2, 3 and NAMES that are free. */
    static CageKernel allNodes() {
        CageKernel k = new CageKernel();
        k.node(0, 1, DIRECTORY, 0);
        k.node(0, 2, DIRECTORY, 0);
        fillNodes(k, 0, 1, 2);
        return k;
    }

    /** PROCESS p forks until no PROCESS is free. */
    static void fillProcesses(CageKernel k, int p) {
        for (int i = 0; i < 16; i++) {
            k.sys(p, FORK, 0, 0);
        }
        due("no process is free", 16, k.count(2) + k.count(3));
    }

    /** All that the host sees, but for how many system calls were made. */
    static String seen(CageKernel k) {
        StringBuilder seen = new StringBuilder();
        for (int n = 0; n < 32; n++) {
            int number = n;
            addRow(seen, 6, what -> k.file(number, what));
        }
        for (int p = 0; p < 16; p++) {
            int number = p;
            addRow(seen, 11, what -> k.process(number, what));
        }
        for (int c = 0; c < 4; c++) {
            int number = c;
            addRow(seen, 8, what -> k.look(number, what));
        }
        return seen.toString();
    }

    /** Of a thing that is not there every row is the same, so one look is enough. */
    private static void addRow(StringBuilder seen, int size, IntUnaryOperator look) {
        int first = look.applyAsInt(0);
        seen.append(first);
        for (int what = 1; what < size && first != CageKernel.REFUSED; what++) {
            seen.append(' ').append(look.applyAsInt(what));
        }
        seen.append('\n');
    }

    /** A refused call changes nothing that the host sees. */
    static void unchanged(String before, CageKernel k) {
        due("nothing is changed", true, before.equals(seen(k)));
    }
}
