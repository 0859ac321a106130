/** The calls 6 MAKE and 7 REMOVE. A method for each of the document's sentences. */
public final class Promise07MakeRemoveTest {
    private static final int MISSING = CageKernel.MISSING, KIND = CageKernel.KIND, DENIED = CageKernel.DENIED,
            BUSY = CageKernel.BUSY, EXISTS = CageKernel.EXISTS, FULL = CageKernel.FULL, QUOTA = CageKernel.QUOTA;

    public static void main(String[] args) {
        make();
        makeWithSevenNames();
        makeNoName();
        makeUp();
        makeInNothing();
        makeInFile();
        makeOfOtherKind();
        makeExists();
        makeDenied();
        makeFull();
        makeQuota();
        makeQuotaOfCagesAround();
        makeOrder();
        removeMissing();
        removeNodeZeroAndRoots();
        removePointsAndShown();
        removeNotEmpty();
        removeDenied();
        remove();
        Check.end();
    }

    private static int make(CageKernel k, int kind, int... names) {
        return k.sys(0, Check.MAKE, Check.path(names), kind);
    }

    private static int remove(CageKernel k, int... names) {
        return k.sys(0, Check.REMOVE, Check.path(names), 0);
    }

    private static void make() {
        Check.sentence(7, "6 MAKE a b: a new NODE, whose NAME is the last of PATH a, in what the rest of it leads to: "
                + ".. its OWNER is the host user: its number");
        CageKernel k = new CageKernel();
        k.node(0, 1, Check.DIRECTORY, 12);
        k.cage(1, 10, 5, -1, 255);
        k.start(0, 255, -1);
        k.sys(0, Check.USER, 2, 0);
        Check.due("directory", 2, make(k, Check.DIRECTORY, 14));
        Check.due("file", 3, make(k, Check.FILE, 14, 1));
        Check.due("by a way up", 4, make(k, Check.FILE, 14, Check.UP, 5));
        Check.row("node 2", what -> k.file(2, what), 0, 14, 1, 12, 1, 0);
        Check.row("node 3", what -> k.file(3, what), 1, 1, 2, 12, 0, 0);
        Check.row("node 4", what -> k.file(4, what), 1, 5, 1, 12, 0, 0);
        Check.due("used", 3, k.look(0, 1));
    }

    private static void makeWithSevenNames() {
        Check.sentence(7, "PATHS are ints: NAMES .. up to the first 0 or the seventh: the last of PATH a");
        CageKernel k = Check.oneCage(255);
        int path = 0;
        for (int n = 1; n <= 7; n++) {
            path |= n << (4 * n - 4);
            Check.due("the last of " + n, n, k.sys(0, Check.MAKE, path, 0));
            Check.due("its name", n, k.file(n, 1));
            Check.due("in the one before", n - 1, k.file(n, 2));
        }
        Check.due("the last one before a 0", 8, make(k, Check.FILE, 1, 9, 0, 4, 5));
        Check.due("its name", 9, k.file(8, 1));
    }

    private static void makeNoName() {
        Check.sentence(7, "6 MAKE a b: MISSING if a has no NAME");
        CageKernel k = Check.oneCage(255);
        Check.due("0", MISSING, k.sys(0, Check.MAKE, 0, 0));
        Check.due("names behind a 0 are none", MISSING, make(k, 0, 0, 5));
        Check.due("no name before kind", MISSING, k.sys(0, Check.MAKE, 0, 2));
        Check.due("nothing was made", 1, k.count(0));
    }

    private static void makeUp() {
        Check.sentence(7, "6 MAKE a b: MISSING if .. its last one is 15");
        CageKernel k = Check.oneCage(255);
        k.node(0, 1, Check.DIRECTORY, 0);
        Check.due("up alone", MISSING, make(k, 0, Check.UP));
        Check.due("up at last", MISSING, make(k, 0, 1, Check.UP));
        Check.due("up before kind", MISSING, make(k, 2, 1, Check.UP));
        Check.due("nothing was made", 2, k.count(0));
        Check.due("up before the last", 2, make(k, 0, 1, Check.UP, 2));
    }

    private static void makeInNothing() {
        Check.sentence(7, "6 MAKE a b: MISSING if .. the rest leads to nothing");
        CageKernel k = Check.oneCage(255);
        k.node(0, 1, Check.FILE, 0);
        Check.due("no such directory", MISSING, make(k, 0, 4, 4));
        Check.due("before kind", MISSING, make(k, 2, 4, 4));
        Check.due("a name in a file", MISSING, make(k, 0, 1, 4, 4));
        for (int bit = 28; bit < 32; bit++) {
            Check.due("bit " + bit, MISSING, k.sys(0, Check.MAKE, 4 | 1 << bit, 0));
            Check.due("bit " + bit + " alone", MISSING, k.sys(0, Check.MAKE, 1 << bit, 0));
        }
        Check.due("nothing was made", 2, k.count(0));
    }

    private static void makeInFile() {
        Check.sentence(7, "6 MAKE a b: KIND if that is a FILE");
        CageKernel k = Check.oneCage(255);
        k.node(0, 1, Check.FILE, 0);
        Check.due("a directory in a file", KIND, make(k, Check.DIRECTORY, 1, 4));
        Check.due("a file in a file", KIND, make(k, Check.FILE, 1, 4));
        Check.due("nothing was made", 2, k.count(0));
    }

    private static void makeOfOtherKind() {
        Check.sentence(7, "6 MAKE a b: KIND if .. b is not 0 (DIRECTORY) or 1 (FILE)");
        CageKernel k = Check.oneCage(255);
        k.node(0, 1, Check.DIRECTORY, 0);
        Check.outside("of kind", 0, 1, KIND, kind -> k.sys(0, Check.MAKE, 2, kind));
        Check.outside("kind before exists", 0, 1, KIND, kind -> k.sys(0, Check.MAKE, 1, kind));
        Check.due("nothing was made", 2, k.count(0));
        Check.due("a directory", 2, make(k, 0, 2));
        Check.due("a file", 3, make(k, 1, 3));
    }

    private static void makeExists() {
        Check.sentence(7, "6 MAKE a b: EXISTS if there is one of that NAME");
        CageKernel k = Check.oneCage(255);
        k.node(0, 1, Check.DIRECTORY, 0);
        k.node(0, 2, Check.FILE, 0);
        for (int kind = 0; kind <= 1; kind++) {
            Check.due("as the directory", EXISTS, make(k, kind, 1));
            Check.due("as the file", EXISTS, make(k, kind, 2));
        }
        Check.due("nothing was made", 3, k.count(0));
        Check.due("the same name elsewhere", 3, make(k, 0, 1, 1));
        remove(k, 2);
        Check.due("there is none any more", 2, make(k, 0, 2));
    }

    private static void makeDenied() {
        Check.sentence(7, "6 MAKE a b: DENIED if it MAY not change the DIRECTORY");
        CageKernel k = new CageKernel();
        for (int name = 1; name <= 4; name++) {
            k.node(0, name, Check.DIRECTORY, 8 + name);
        }
        k.cage(0, 10, 2, -1, 255);
        k.start(0, 255, -1);
        int[] withOwn = {DENIED, 5, 6, DENIED};
        int[] without = {DENIED, 7, DENIED, DENIED};
        for (int i = 0; i < 4; i++) {
            Check.due("with own, owner " + (9 + i), withOwn[i], make(k, 0, i + 1, 1));
        }
        k.sys(0, Check.POWERS, 0, 254);
        for (int i = 0; i < 4; i++) {
            Check.due("without own, owner " + (9 + i), without[i], make(k, 0, i + 1, 2));
        }
        Check.due("the root's owner has no number", DENIED, make(k, 0, 9));
        Check.due("no more was made", 8, k.count(0));
    }

    /** All NODES are there; DIRECTORIES 1 and 2 are the root's, of host users 9 and 0; 2 has room for NAMES. */
    private static CageKernel withAllNodes(int limits) {
        CageKernel k = new CageKernel();
        k.cage(0, 0, 5, -1, limits);
        k.start(0, 255, -1);
        k.node(0, 1, Check.DIRECTORY, 9);
        k.node(0, 2, Check.DIRECTORY, 0);
        for (int name = 1; name <= 13; name++) {
            k.node(1, name, Check.FILE, 0);
        }
        Check.fillNodes(k, 0, 2);
        return k;
    }

    private static void makeFull() {
        Check.sentence(7, "6 MAKE a b: FULL if no NODE is free");
        CageKernel k = withAllNodes(255);
        Check.due("full", FULL, make(k, 0, 2, 14));
        Check.due("full for a file", FULL, make(k, 1, 2, 14));
        remove(k, 14);
        int free = make(k, 0, 2, 14);
        Check.due("one is free", 14, k.file(free, 1));
        Check.due("full again", FULL, make(k, 0, 2, 13));
    }

    private static void makeQuota() {
        Check.sentence(7, "6 MAKE a b: QUOTA: refused .. if that cage .. has USED as many as its LIMIT");
        for (int limit = 0; limit <= 14; limit++) {
            CageKernel k = new CageKernel();
            k.cage(0, 0, 5, -1, 0x10 + limit);
            k.start(0, 255, -1);
            k.node(0, 14, Check.DIRECTORY, 0);
            for (int n = 1; n <= limit; n++) {
                Check.due("make", n + 1, make(k, n % 2, 14, n));
            }
            Check.due("quota of " + limit, QUOTA, make(k, 0, 13));
            Check.due("used", limit, k.look(0, 1));
        }
        CageKernel k = Check.oneCage(255);
        make(k, 0, 1);
        for (int n = 1; n <= 14; n++) {
            Check.due("make", n + 1, make(k, 1, 1, n));
        }
        Check.due("quota of 15", QUOTA, make(k, 1, 2));
        Check.due("one away", 0, remove(k, 1, 7));
        Check.due("one again", 8, make(k, 1, 2));
        Check.due("quota of 15 again", QUOTA, make(k, 1, 3));
    }

    private static void makeQuotaOfCagesAround() {
        Check.sentence(7, "6 MAKE a b: QUOTA: or one around it (at any depth) has USED as many as its LIMIT");
        CageKernel k = new CageKernel();
        k.cage(0, 0, 9, -1, 0xf3);
        k.cage(0, 0, 9, 0, 0xff);
        k.cage(0, 0, 9, 1, 0xf2);
        k.cage(0, 0, 9, 0, 0xff);
        for (int c = 0; c < 4; c++) {
            k.start(c, 255, -1);
        }
        Check.due("first", 1, k.sys(2, Check.MAKE, 1, 0));
        Check.due("second", 2, k.sys(2, Check.MAKE, 2, 0));
        Check.due("its own limit", QUOTA, k.sys(2, Check.MAKE, 3, 0));
        Check.due("the third is its outer cage's", 3, k.sys(1, Check.MAKE, 3, 0));
        for (int p = 0; p < 4; p++) {
            Check.due("the outermost limit, " + p, QUOTA, k.sys(p, Check.MAKE, 4, 0));
        }
        int[] used = {3, 3, 2, 0};
        for (int c = 0; c < 4; c++) {
            Check.due("used by " + c, used[c], k.look(c, 1));
        }
        k.sys(2, Check.EXIT, 0, 0);
        Check.due("used after the cage's end", QUOTA, k.sys(0, Check.MAKE, 4, 0));
        Check.due("another cage takes one away", 0, k.sys(3, Check.REMOVE, 1, 0));
        Check.due("so there is room", 1, k.sys(3, Check.MAKE, 5, 0));
        Check.due("used by the one that made it", 1, k.look(3, 1));
        Check.due("used by the ended cage", 1, k.look(2, 1));
    }

    private static void makeOrder() {
        Check.sentence(7, "6 MAKE a b: MISSING ..; KIND ..; EXISTS ..; DENIED ..; FULL ..; QUOTA");
        CageKernel full = withAllNodes(0xf0);
        Check.due("full before quota", FULL, make(full, 0, 2, 14));
        Check.due("denied before full", DENIED, make(full, 0, 1, 14));
        Check.due("exists before denied", EXISTS, make(full, 0, 1, 1));
        Check.due("exists before full", EXISTS, make(full, 0, 2, 1));
        Check.due("kind before exists", KIND, make(full, 2, 2, 1));
        Check.due("kind before denied", KIND, make(full, 2, 1, 14));
        Check.due("kind before full", KIND, make(full, 2, 2, 14));
        Check.due("missing before full", MISSING, make(full, 0, 2, Check.UP));
        remove(full, 2, 1);
        Check.due("quota when one is free", QUOTA, make(full, 0, 2, 14));
        Check.due("denied before quota", DENIED, make(full, 0, 1, 14));
        Check.due("exists before quota", EXISTS, make(full, 0, 2, 2));
        Check.due("kind before quota", KIND, make(full, 2, 2, 14));
    }

    private static void removeMissing() {
        Check.sentence(7, "7 REMOVE a: MISSING");
        CageKernel k = Check.oneCage(255);
        k.node(0, 1, Check.FILE, 0);
        Check.due("no such name", MISSING, remove(k, 2));
        Check.due("a name in a file", MISSING, remove(k, 1, 1));
        for (int bit = 28; bit < 32; bit++) {
            Check.due("bit " + bit, MISSING, k.sys(0, Check.REMOVE, 1 | 1 << bit, 0));
        }
        Check.due("it", 0, remove(k, 1));
        Check.due("not there any more", MISSING, remove(k, 1));
    }

    private static void removeNodeZeroAndRoots() {
        Check.sentence(7, "7 REMOVE a: BUSY if it is NODE 0, a ROOT");
        CageKernel k = new CageKernel();
        k.node(0, 1, Check.DIRECTORY, 0);
        k.node(0, 2, Check.DIRECTORY, 0);
        k.cage(1, 0, 9, -1, 255);
        k.cage(0, 0, 9, -1, 255);
        k.cage(2, 0, 9, -1, 255);
        k.start(1, 255, -1);
        Check.due("root of the first cage", BUSY, remove(k, 1));
        Check.due("root of the last cage", BUSY, remove(k, 2));
        Check.due("its own root, node 0", BUSY, remove(k));
        k.start(0, 255, -1);
        Check.due("its own root", BUSY, k.sys(1, Check.REMOVE, 0, 0));
        k.kill(1);
        Check.due("root of a cage that is not started any more", BUSY, remove(k, 1));
        Check.due("all are there", 3, k.count(0));
    }

    private static void removePointsAndShown() {
        Check.sentence(7, "7 REMOVE a: BUSY if it is .. the POINT of a MOUNT or shown by one (of any cage)");
        CageKernel k = Check.oneCage(255);
        for (int name = 1; name <= 5; name++) {
            k.node(0, name, Check.DIRECTORY, 0);
        }
        k.cage(0, 0, 1, -1, 255);
        k.start(1, 255, -1);
        k.sys(1, Check.MOUNT, 5, 5);
        k.sys(1, Check.MOUNT, 2, 3);
        Check.due("point in another cage", BUSY, remove(k, 2));
        Check.due("shown in another cage", BUSY, remove(k, 3));
        Check.due("both in another cage", BUSY, remove(k, 5));
        Check.due("neither", 0, remove(k, 4));
        k.sys(0, Check.MOUNT, 1, 3);
        Check.due("what is shown in its own cage", BUSY, remove(k, 1));
        k.sys(1, Check.UNMOUNT, 2, 0);
        Check.due("point no more", 0, remove(k, 2));
        Check.due("shown by one still", BUSY, remove(k, 3));
        k.sys(0, Check.UNMOUNT, 1, 0);
        Check.due("shown no more", 0, remove(k, 3));
        k.kill(1);
        Check.due("gone with the cage's end", 0, remove(k, 5));
    }

    private static void removeNotEmpty() {
        Check.sentence(7, "7 REMOVE a: BUSY if it is .. a DIRECTORY that is not empty");
        CageKernel k = Check.oneCage(255);
        k.node(0, 1, Check.DIRECTORY, 0);
        k.node(1, 2, Check.DIRECTORY, 0);
        k.node(2, 3, Check.FILE, 0);
        Check.due("one directory in it", BUSY, remove(k, 1));
        Check.due("one file in it", BUSY, remove(k, 1, 2));
        Check.due("a file", 0, remove(k, 1, 2, 3));
        Check.due("empty now", 0, remove(k, 1, 2));
        Check.due("this one, too", 0, remove(k, 1));
        Check.due("node 0 alone", 1, k.count(0));
    }

    private static void removeDenied() {
        Check.sentence(7, "7 REMOVE a: DENIED if it MAY not change the DIRECTORY in which it is");
        CageKernel k = new CageKernel();
        for (int name = 1; name <= 4; name++) {
            k.node(0, name, Check.DIRECTORY, 8 + name);
            k.node(2 * name - 1, 1, Check.FILE, name == 2 ? 200 : 10);
        }
        k.cage(0, 10, 2, -1, 255);
        k.start(0, 254, -1);
        int[] due = {DENIED, 0, DENIED, DENIED};
        for (int name = 1; name <= 4; name++) {
            Check.due("the directory counts, not the file, " + name, due[name - 1], remove(k, name, 1));
        }
        Check.due("busy before denied", BUSY, remove(k, 1));
        Check.due("node 0, busy before denied", BUSY, remove(k));
        Check.due("its own in another's", DENIED, remove(k, 2));
        Check.due("all but one are there", 8, k.count(0));
        k.kill(0);
        k.start(0, 1, -1);
        Check.due("with own, its owner has a number", 0, remove(k, 3, 1));
        Check.due("with own, its owner has none", DENIED, remove(k, 4, 1));
        Check.due("with own, the root's owner has none", DENIED, remove(k, 2));
    }

    private static void remove() {
        Check.sentence(7, "7 REMOVE a: it is gone: 0");
        CageKernel k = Check.oneCage(255);
        make(k, 0, 1);
        make(k, 1, 2);
        Check.due("used", 2, k.look(0, 1));
        Check.due("gone", 0, remove(k, 1));
        Check.due("no such node", CageKernel.REFUSED, k.file(1, 0));
        Check.due("no such name", MISSING, k.sys(0, Check.LOOK, 1, 0));
        Check.due("one is in the root", 1, k.file(0, 4));
        Check.due("used", 1, k.look(0, 1));
        Check.due("count", 2, k.count(0));
        Check.due("its number comes again", 1, make(k, 1, 3));
    }
}
