/** The calls 4 READ, 5 WRITE, 6 MAKE, 7 REMOVE, 8 GIVE and 17 LOOK. */
public final class Promise07FileCallsTest {
    public static void main(String[] args) {
        readAndWrite();
        mayWrite();
        make();
        makeOrder();
        makeFull();
        remove();
        removeBusyEverywhere();
        give();
        look();
        quota();
        Check.end();
    }

    private static void readAndWrite() {
        CageKernel k = Check.oneCage(1);
        k.node(0, 1, Check.FILE, 0);
        k.node(0, 2, Check.DIRECTORY, 0);
        Check.due("at first", 0, k.sys(0, Check.READ, 1, 0));
        for (int value : new int[] {7, -5, Check.LEAST, Check.MOST, 0}) {
            Check.due("write", 0, k.sys(0, Check.WRITE, 1, value));
            Check.due("read", value, k.sys(0, Check.READ, 1, 0));
            Check.due("file", value, k.file(1, 4));
        }
        for (int call = Check.READ; call <= Check.WRITE; call++) {
            Check.due("missing", CageKernel.MISSING, k.sys(0, call, 3, 0));
            Check.due("a name in a file", CageKernel.MISSING, k.sys(0, call, Check.path(1, 1), 0));
            Check.due("a directory", CageKernel.KIND, k.sys(0, call, 2, 0));
            Check.due("the root", CageKernel.KIND, k.sys(0, call, 0, 0));
        }
    }

    private static void mayWrite() {
        CageKernel k = new CageKernel();
        int[] owners = {9, 10, 13, 14, 15};
        for (int i = 0; i < owners.length; i++) {
            k.node(0, i + 1, Check.FILE, owners[i]);
        }
        k.node(0, 9, Check.DIRECTORY, 9);
        k.cage(0, 10, 5, -1, 255);
        k.start(0, 255, -1);
        int no = CageKernel.DENIED;
        int[] withOwn = {no, 0, 0, 0, no};
        int[] without = {no, 0, no, no, no};
        int[] asUserThree = {no, no, 0, no, no};
        for (int i = 0; i < owners.length; i++) {
            Check.due("with own, owner " + owners[i], withOwn[i], k.sys(0, Check.WRITE, i + 1, 1));
        }
        k.sys(0, Check.POWERS, 0, 254);
        for (int i = 0; i < owners.length; i++) {
            Check.due("without own, owner " + owners[i], without[i], k.sys(0, Check.WRITE, i + 1, 1));
            Check.due("everybody reads", i == 0 || i == 4 ? 0 : 1, k.sys(0, Check.READ, i + 1, 1));
        }
        k.sys(0, Check.USER, 3, 0);
        for (int i = 0; i < owners.length; i++) {
            Check.due("as user 3, owner " + owners[i], asUserThree[i], k.sys(0, Check.WRITE, i + 1, 2));
        }
        Check.due("kind before denied", CageKernel.KIND, k.sys(0, Check.WRITE, 9, 1));
    }

    private static void make() {
        CageKernel k = new CageKernel();
        k.node(0, 1, Check.DIRECTORY, 12);
        k.cage(1, 10, 5, -1, 255);
        k.start(0, 255, -1);
        k.sys(0, Check.USER, 2, 0);
        Check.due("directory", 2, k.sys(0, Check.MAKE, 14, Check.DIRECTORY));
        Check.due("file", 3, k.sys(0, Check.MAKE, Check.path(14, 1), Check.FILE));
        Check.due("by a way up", 4, k.sys(0, Check.MAKE, Check.path(14, Check.UP, 5), Check.FILE));
        int[] directory = {0, 14, 1, 12, 1, 0};
        int[] file = {1, 1, 2, 12, 0, 0};
        for (int what = 0; what < 6; what++) {
            Check.due("directory, " + what, directory[what], k.file(2, what));
            Check.due("file, " + what, file[what], k.file(3, what));
        }
        Check.due("in the root of the cage", 1, k.file(4, 2));
        Check.due("of seven names", CageKernel.MISSING, k.sys(0, Check.MAKE, Check.path(14, 2, 2, 2, 2, 2, 2), 0));
        for (int n = 5; n < 9; n++) {
            int path = Check.path(14, 2, n < 6 ? 0 : 2, n < 7 ? 0 : 2, n < 8 ? 0 : 2);
            Check.due("deeper", n, k.sys(0, Check.MAKE, path, 0));
        }
        Check.due("deeper", 9, k.sys(0, Check.MAKE, Check.path(14, 2, 2, 2, 2, 2), 0));
        Check.due("of seven names", 10, k.sys(0, Check.MAKE, Check.path(14, 2, 2, 2, 2, 2, 3), 0));
        Check.due("it is there", 9, k.file(10, 2));
        Check.due("used", 9, k.look(0, 1));
    }

    private static void makeOrder() {
        CageKernel k = new CageKernel();
        k.node(0, 1, Check.FILE, 9);
        k.node(0, 2, Check.DIRECTORY, 9);
        k.node(2, 3, Check.DIRECTORY, 9);
        k.cage(0, 0, 5, -1, 0xf0);
        k.start(0, 254, -1);
        int missing = CageKernel.MISSING, kind = CageKernel.KIND;
        Check.due("no name", missing, k.sys(0, Check.MAKE, 0, 0));
        Check.due("no name, for names behind a 0 are none", missing, k.sys(0, Check.MAKE, 0x50, 0));
        Check.due("up", missing, k.sys(0, Check.MAKE, Check.UP, 0));
        Check.due("up at last", missing, k.sys(0, Check.MAKE, Check.path(2, Check.UP), 2));
        Check.due("leads to nothing", missing, k.sys(0, Check.MAKE, Check.path(4, 4), 2));
        Check.due("in a file's name", missing, k.sys(0, Check.MAKE, Check.path(1, 4, 4), 2));
        Check.due("other bits", missing, k.sys(0, Check.MAKE, 4 | 1 << 28, 0));
        Check.due("other bits", missing, k.sys(0, Check.MAKE, 4 | 1 << 31, 0));
        Check.due("in a file", kind, k.sys(0, Check.MAKE, Check.path(1, 4), 0));
        for (int b : new int[] {-1, 2, Check.LEAST, Check.MOST}) {
            Check.due("of kind " + b, kind, k.sys(0, Check.MAKE, 2, b));
        }
        Check.due("exists before denied", CageKernel.EXISTS, k.sys(0, Check.MAKE, Check.path(2, 3), 0));
        Check.due("denied before quota", CageKernel.DENIED, k.sys(0, Check.MAKE, Check.path(2, 4), 0));
        Check.due("quota", CageKernel.QUOTA, k.sys(0, Check.MAKE, 4, 0));
        Check.due("nothing was made", 4, k.count(0));
        k.sys(0, Check.POWERS, 0, 1);
        Check.due("own, but its owner has no number", CageKernel.DENIED, k.sys(0, Check.MAKE, Check.path(2, 4), 0));
    }

    private static void makeFull() {
        CageKernel k = new CageKernel();
        k.cage(0, 0, 5, -1, 0xf0);
        k.start(0, 255, -1);
        k.node(0, 1, Check.DIRECTORY, 9);
        k.node(0, 2, Check.DIRECTORY, 0);
        for (int n = 3; n < 32; n++) {
            k.node(n < 16 ? 1 : n < 20 ? 0 : 2, 1 + (n < 16 ? n - 3 : n), 1, 0);
            if (n >= 16) {
                k.node(n < 20 ? 0 : 2, 3 + (n < 20 ? n - 16 : n - 20), 1, 0);
            }
        }
        Check.due("all nodes are there", 32, k.count(0));
        Check.due("denied before full", CageKernel.DENIED, k.sys(0, Check.MAKE, Check.path(1, 14), 0));
        Check.due("full before quota", CageKernel.FULL, k.sys(0, Check.MAKE, 14, 0));
        Check.due("exists before full", CageKernel.EXISTS, k.sys(0, Check.MAKE, 2, 0));
    }

    private static void remove() {
        CageKernel k = new CageKernel();
        k.node(0, 1, Check.DIRECTORY, 5);
        k.node(1, 2, Check.FILE, 200);
        k.node(1, 3, Check.DIRECTORY, 5);
        k.node(3, 4, Check.FILE, 5);
        k.node(0, 5, Check.FILE, 5);
        k.cage(0, 5, 5, -1, 255);
        k.start(0, 255, -1);
        Check.due("missing", CageKernel.MISSING, k.sys(0, Check.REMOVE, 9, 0));
        Check.due("node 0", CageKernel.BUSY, k.sys(0, Check.REMOVE, 0, 0));
        Check.due("not empty", CageKernel.BUSY, k.sys(0, Check.REMOVE, Check.path(1, 3), 0));
        Check.due("the directory's owner has no number", CageKernel.DENIED, k.sys(0, Check.REMOVE, 5, 0));
        Check.due("the directory counts, not the file", 0, k.sys(0, Check.REMOVE, Check.path(1, 2), 0));
        Check.due("gone", CageKernel.REFUSED, k.file(2, 0));
        Check.due("gone", CageKernel.MISSING, k.sys(0, Check.READ, Check.path(1, 2), 0));
        Check.due("in it", 1, k.file(1, 4));
        Check.due("its number comes again", 2, k.sys(0, Check.MAKE, Check.path(1, 2), 0));
        Check.due("a file", 0, k.sys(0, Check.REMOVE, Check.path(1, 3, 4), 0));
        Check.due("empty now", 0, k.sys(0, Check.REMOVE, Check.path(1, 3), 0));
        Check.due("used", 1, k.look(0, 1));
        Check.due("made by it", 0, k.sys(0, Check.REMOVE, Check.path(1, 2), 0));
        Check.due("used", 0, k.look(0, 1));
        Check.due("count", 3, k.count(0));
        k.sys(0, Check.POWERS, 0, 0);
        Check.due("busy before denied", CageKernel.BUSY, k.sys(0, Check.REMOVE, 0, 0));
    }

    private static void removeBusyEverywhere() {
        CageKernel first = new CageKernel();
        first.node(0, 1, Check.DIRECTORY, 0);
        first.cage(1, 0, 9, -1, 255);
        first.cage(0, 0, 9, -1, 255);
        first.start(1, 255, -1);
        Check.due("root of the first cage", CageKernel.BUSY, first.sys(0, Check.REMOVE, 1, 0));
        CageKernel k = Check.oneCage(255);
        for (int name = 1; name <= 4; name++) {
            k.node(0, name, Check.DIRECTORY, 0);
        }
        k.cage(1, 0, 1, -1, 255);
        Check.due("root of a cage that is not started", CageKernel.BUSY, k.sys(0, Check.REMOVE, 1, 0));
        k.cage(0, 0, 1, -1, 255);
        k.start(2, 255, -1);
        k.sys(1, Check.MOUNT, 2, 3);
        Check.due("point in another cage", CageKernel.BUSY, k.sys(0, Check.REMOVE, 2, 0));
        Check.due("shown in another cage", CageKernel.BUSY, k.sys(0, Check.REMOVE, 3, 0));
        Check.due("neither", 0, k.sys(0, Check.REMOVE, 4, 0));
        k.sys(1, Check.UNMOUNT, 2, 0);
        Check.due("point no more", 0, k.sys(0, Check.REMOVE, 2, 0));
        Check.due("shown no more", 0, k.sys(0, Check.REMOVE, 3, 0));
        Check.due("still a root", CageKernel.BUSY, k.sys(0, Check.REMOVE, 1, 0));
    }

    private static void give() {
        CageKernel k = new CageKernel();
        k.node(0, 1, Check.FILE, 14);
        k.node(0, 2, Check.DIRECTORY, 15);
        k.node(0, 3, Check.DIRECTORY, 9);
        k.node(0, 4, Check.DIRECTORY, 10);
        k.cage(0, 10, 5, -1, 255);
        k.start(0, 255, -1);
        Check.due("missing", CageKernel.MISSING, k.sys(0, Check.GIVE, 9, 0));
        for (int user : new int[] {-1, 5, 14, Check.LEAST, Check.MOST}) {
            Check.due("no user " + user, CageKernel.DENIED, k.sys(0, Check.GIVE, 1, user));
        }
        Check.due("owner above", CageKernel.DENIED, k.sys(0, Check.GIVE, 2, 0));
        Check.due("owner below", CageKernel.DENIED, k.sys(0, Check.GIVE, 3, 0));
        Check.due("the owner stays", 14, k.file(1, 3));
        Check.due("give", 0, k.sys(0, Check.GIVE, 1, 0));
        Check.due("owner", 10, k.file(1, 3));
        Check.due("give a directory", 0, k.sys(0, Check.GIVE, 4, 4));
        Check.due("owner", 14, k.file(4, 3));
        k.sys(0, Check.POWERS, 0, 254);
        Check.due("its own without own", CageKernel.DENIED, k.sys(0, Check.GIVE, 1, 0));
    }

    private static void look() {
        CageKernel k = new CageKernel();
        int[] owners = {9, 10, 14, 15};
        int[] numbers = {255, 0, 4, 255};
        for (int i = 0; i < owners.length; i++) {
            k.node(0, 1 + i, Check.DIRECTORY, owners[i]);
            k.node(0, 5 + i, Check.FILE, owners[i]);
        }
        k.cage(0, 10, 5, -1, 255);
        k.start(0, 0, -1);
        for (int i = 0; i < owners.length; i++) {
            Check.due("directory of " + owners[i], numbers[i], k.sys(0, Check.LOOK, 1 + i, 0));
            Check.due("file of " + owners[i], 256 + numbers[i], k.sys(0, Check.LOOK, 5 + i, 0));
        }
        Check.due("the root", 255, k.sys(0, Check.LOOK, 0, 0));
        Check.due("missing", CageKernel.MISSING, k.sys(0, Check.LOOK, 9, 0));
    }

    /** Limits within limits, for NODES. */
    private static void quota() {
        CageKernel k = new CageKernel();
        k.cage(0, 0, 9, -1, 0xf3);
        k.cage(0, 0, 9, 0, 0xff);
        k.cage(0, 0, 9, 1, 0xf2);
        k.cage(0, 0, 9, 0, 0xff);
        for (int c = 0; c < 4; c++) {
            k.start(c, 255, -1);
        }
        Check.due("first", 1, k.sys(2, Check.MAKE, 1, 0));
        Check.due("second", 2, k.sys(2, Check.MAKE, 2, 0));
        Check.due("its own limit", CageKernel.QUOTA, k.sys(2, Check.MAKE, 3, 0));
        Check.due("the third is its outer cage's", 3, k.sys(1, Check.MAKE, 3, 0));
        for (int p = 0; p < 4; p++) {
            Check.due("the outermost limit, " + p, CageKernel.QUOTA, k.sys(p, Check.MAKE, 4, 0));
        }
        int[] used = {3, 3, 2, 0};
        for (int c = 0; c < 4; c++) {
            Check.due("used by " + c, used[c], k.look(c, 1));
        }
        k.sys(2, Check.EXIT, 0, 0);
        Check.due("used after the cage's end", 3, k.look(0, 1));
        Check.due("another cage takes one away", 0, k.sys(3, Check.REMOVE, 1, 0));
        Check.due("so there is room", 1, k.sys(3, Check.MAKE, 5, 0));
        Check.due("used by the one that made it", 1, k.look(3, 1));
        Check.due("used by the ended cage", 1, k.look(2, 1));
    }
}
