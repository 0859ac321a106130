/** cage: a new cage, not started. A method for each of the document's sentences. */
public final class Promise03CageTest {
    private static final int REFUSED = CageKernel.REFUSED;

    public static void main(String[] args) {
        itsNumber();
        roots();
        lows();
        counts();
        outers();
        limits();
        limitBits();
        full();
        usersOfACage();
        Check.end();
    }

    private static void itsNumber() {
        Check.sentence(3, "A new cage, not started: its number.");
        CageKernel k = new CageKernel();
        k.node(0, 1, Check.DIRECTORY, 10);
        int[] outers = {-1, 0, 1, 0};
        for (int c = 0; c < 4; c++) {
            Check.due("cage", c, k.cage(1, 10, 5, outers[c], 0x21));
            Check.due("how many", c + 1, k.count(1));
            int made = c;
            Check.row("cage " + c, what -> k.look(made, what), 0, 0, 0, 0, 0, 0, 0, outers[c]);
        }
        Check.due("start", 0, k.start(0, 255, -1));
        Check.due("it sees its root as the top", 0, k.sys(0, Check.LOOK, Check.path(Check.UP), 0));
    }

    private static void roots() {
        Check.sentence(3, "REFUSED if root is no DIRECTORY that is there");
        CageKernel k = Check.oneCage(255);
        k.node(0, 1, Check.FILE, 0);
        k.node(0, 2, Check.DIRECTORY, 0);
        k.node(0, 3, Check.DIRECTORY, 0);
        k.sys(0, Check.REMOVE, 2, 0);
        Check.outside("root", 0, 31, REFUSED, root -> k.cage(root, 0, 1, -1, 0));
        Check.each("not there any more, or never", REFUSED, root -> k.cage(root, 0, 1, -1, 0), 2, 4, 31);
        Check.due("a file", REFUSED, k.cage(1, 0, 1, -1, 0));
        Check.due("none was made", 1, k.count(1));
        Check.due("a directory", 1, k.cage(3, 0, 1, -1, 0));
    }

    private static void lows() {
        Check.sentence(3, "low not 0..255");
        CageKernel k = new CageKernel();
        Check.outside("low", 0, 255, REFUSED, low -> k.cage(0, low, 1, -1, 0));
        Check.due("none was made", 0, k.count(1));
        Check.due("the least", 0, k.cage(0, 0, 1, -1, 0));
        Check.due("the highest", 1, k.cage(0, 255, 1, -1, 0));
    }

    private static void counts() {
        Check.sentence(3, "count not 1..256 - low");
        CageKernel k = new CageKernel();
        for (int low : new int[] {0, 100, 255}) {
            Check.outside("low " + low + ", count", 1, 256 - low, REFUSED, count -> k.cage(0, low, count, -1, 0));
        }
        Check.due("none was made", 0, k.count(1));
        Check.due("the least", 0, k.cage(0, 100, 1, -1, 0));
        Check.due("all users", 1, k.cage(0, 0, 256, -1, 0));
        Check.due("up to the last user", 2, k.cage(0, 100, 156, -1, 0));
        Check.due("the last user alone", 3, k.cage(0, 255, 1, -1, 0));
    }

    private static void outers() {
        Check.sentence(3, "outer not -1 (none) or a cage");
        CageKernel k = new CageKernel();
        for (int there = 0; there < 4; there++) {
            Check.outside("outer", -1, there - 1, REFUSED, outer -> k.cage(0, 0, 1, outer, 0));
            Check.due("none was made", there, k.count(1));
            Check.due("in the one before", there, k.cage(0, 0, 1, there - 1, 0));
            Check.due("outer", there - 1, k.look(there, 7));
        }
    }

    private static void limits() {
        Check.sentence(3, "limits not 0..255");
        CageKernel k = new CageKernel();
        Check.outside("limits", 0, 255, REFUSED, limits -> k.cage(0, 0, 1, -1, limits));
        Check.due("none was made", 0, k.count(1));
        Check.due("the least", 0, k.cage(0, 0, 1, -1, 0));
        Check.due("the highest", 1, k.cage(0, 0, 1, -1, 255));
    }

    private static void limitBits() {
        Check.sentence(3, "NODES in the lowest four bits, PROCESSES in the next four");
        CageKernel k = new CageKernel();
        k.cage(0, 0, 256, -1, 0x21);
        Check.due("first process", 0, k.start(0, 255, -1));
        Check.due("second process", 2, k.sys(0, Check.FORK, 0, 0));
        Check.due("third process", CageKernel.QUOTA, k.sys(0, Check.FORK, 0, 0));
        Check.due("first node", 1, k.sys(0, Check.MAKE, 1, 0));
        Check.due("second node", CageKernel.QUOTA, k.sys(0, Check.MAKE, 2, 0));
        k.cage(0, 0, 256, -1, 0x0f);
        Check.due("no process", CageKernel.QUOTA, k.start(1, 255, -1));
        k.cage(0, 0, 256, -1, 0xf0);
        Check.due("a process", 2, k.start(2, 255, -1));
        Check.due("no node", CageKernel.QUOTA, k.sys(2, Check.MAKE, 2, 0));
    }

    private static void full() {
        Check.sentence(3, "FULL if there are 4");
        CageKernel k = new CageKernel();
        for (int c = 0; c < 4; c++) {
            Check.due("cage", c, k.cage(0, 0, 1, -1, 0));
        }
        Check.due("full", CageKernel.FULL, k.cage(0, 0, 1, -1, 0));
        Check.due("full, in the last", CageKernel.FULL, k.cage(0, 0, 1, 3, 0));
        Check.due("still four", 4, k.count(1));
        Check.due("refused before full (root)", REFUSED, k.cage(1, 0, 1, -1, 0));
        Check.due("refused before full (low)", REFUSED, k.cage(0, 256, 1, -1, 0));
        Check.due("refused before full (count)", REFUSED, k.cage(0, 0, 0, -1, 0));
        Check.due("refused before full (outer)", REFUSED, k.cage(0, 0, 1, 4, 0));
        Check.due("refused before full (limits)", REFUSED, k.cage(0, 0, 1, -1, 256));
    }

    private static void usersOfACage() {
        Check.sentence(3, "its user u, 0..COUNT - 1, is the host user LOW + u; other host users have no number in it");
        CageKernel k = new CageKernel();
        int[] owners = {0, 9, 10, 11, 14, 15, 255};
        int[] numbers = {255, 255, 0, 1, 4, 255, 255};
        for (int i = 0; i < owners.length; i++) {
            k.node(0, i + 1, Check.DIRECTORY, owners[i]);
        }
        k.cage(0, 10, 5, -1, 255);
        k.cage(0, 0, 256, -1, 255);
        k.start(0, 0, -1);
        k.start(1, 0, -1);
        for (int i = 0; i < owners.length; i++) {
            Check.due("host user " + owners[i], numbers[i], k.sys(0, Check.LOOK, i + 1, 0));
            Check.due("in the cage of all, " + owners[i], owners[i], k.sys(1, Check.LOOK, i + 1, 0));
        }
    }
}
