/** file: what the host sees of a NODE. A method for each of the document's sentences. */
public final class Promise10FileTest {
    private static final int REFUSED = CageKernel.REFUSED;

    public static void main(String[] args) {
        allOfEachNode();
        nodeZero();
        howManyAreIn();
        ints();
        makers();
        noNode();
        otherWhats();
        Check.end();
    }

    private static void allOfEachNode() {
        Check.sentence(10, "Of NODE n what 0: 0 a DIRECTORY, 1 a FILE; 1: NAME ..; 2: the DIRECTORY in which it is ..; "
                + "3: OWNER; ..");
        CageKernel k = new CageKernel();
        k.node(0, 3, Check.DIRECTORY, 20);
        k.node(1, 4, Check.DIRECTORY, 21);
        k.cage(0, 0, 256, -1, 255);
        k.cage(1, 20, 4, -1, 255);
        k.start(0, 255, -1);
        k.start(1, 255, -1);
        k.sys(1, Check.MAKE, 5, Check.FILE);
        k.sys(1, Check.MAKE, Check.path(4, 6), Check.FILE);
        k.sys(0, Check.MAKE, 7, Check.DIRECTORY);
        k.sys(0, Check.WRITE, Check.path(3, 5), -44);
        k.sys(1, Check.GIVE, 5, 3);
        Check.row("node 0", what -> k.file(0, what), 0, 0, -1, 0, 2, -1);
        Check.row("node 1", what -> k.file(1, what), 0, 3, 0, 20, 2, -1);
        Check.row("node 2", what -> k.file(2, what), 0, 4, 1, 21, 1, -1);
        Check.row("node 3", what -> k.file(3, what), 1, 5, 1, 23, -44, 1);
        Check.row("node 4", what -> k.file(4, what), 1, 6, 2, 20, 0, 1);
        Check.row("node 5", what -> k.file(5, what), 0, 7, 0, 0, 0, 0);
    }

    private static void nodeZero() {
        Check.sentence(10, "1: NAME (0 for NODE 0); 2: the DIRECTORY in which it is (-1 for NODE 0)");
        CageKernel k = new CageKernel();
        k.node(0, 1, Check.DIRECTORY, 0);
        Check.due("name of node 0", 0, k.file(0, 1));
        Check.due("node 0 is in none", -1, k.file(0, 2));
        Check.due("name of another", 1, k.file(1, 1));
        Check.due("another is in node 0", 0, k.file(1, 2));
    }

    private static void howManyAreIn() {
        Check.sentence(10, "4: the int of a FILE, how many are in a DIRECTORY");
        CageKernel k = Check.oneCage(255);
        Check.due("none", 0, k.file(0, 4));
        for (int name = 1; name <= 14; name++) {
            k.node(0, name, name == 1 ? Check.DIRECTORY : Check.FILE, 0);
            Check.due("so many", name, k.file(0, 4));
        }
        k.node(1, 1, Check.FILE, 0);
        Check.due("not those further down", 14, k.file(0, 4));
        k.sys(0, Check.REMOVE, 14, 0);
        Check.due("one less", 13, k.file(0, 4));
    }

    private static void ints() {
        Check.sentence(10, "4: the int of a FILE");
        CageKernel k = Check.oneCage(255);
        k.node(0, 1, Check.FILE, 0);
        for (int value : new int[] {0, -1, 1, Check.LEAST, Check.MOST}) {
            k.sys(0, Check.WRITE, 1, value);
            Check.due("written", value, k.file(1, 4));
        }
    }

    private static void makers() {
        Check.sentence(10, "5: the cage whose PROCESS made it, -1 if the host did");
        CageKernel k = new CageKernel();
        for (int c = 0; c < 4; c++) {
            k.cage(0, 0, 256, c - 1, 255);
            k.start(c, 255, -1);
            k.sys(c, Check.MAKE, c + 1, Check.FILE);
            Check.due("made in cage " + c, c, k.file(c + 1, 5));
        }
        Check.due("node 0", -1, k.file(0, 5));
        k.kill(0);
        Check.due("it stays when the cage ends", 0, k.file(1, 5));
        k.sys(1, Check.REMOVE, 1, 0);
        Check.due("the number anew", 1, k.node(0, 9, Check.FILE, 0));
        Check.due("made by the host", -1, k.file(1, 5));
    }

    private static void noNode() {
        Check.sentence(10, "REFUSED if there is none");
        CageKernel k = Check.oneCage(255);
        k.node(0, 1, Check.DIRECTORY, 0);
        k.node(0, 2, Check.DIRECTORY, 0);
        k.sys(0, Check.REMOVE, 1, 0);
        for (int what = 0; what < 6; what++) {
            int asked = what;
            Check.outside("what " + what + ", node", 0, 31, REFUSED, n -> k.file(n, asked));
            Check.each("what " + what + ", node", REFUSED, n -> k.file(n, asked), 1, 3, 31);
        }
        k.node(0, 1, Check.DIRECTORY, 0);
        Check.fillNodes(k, 0, 1, 2);
        Check.due("the last one", 1, k.file(31, 0));
    }

    private static void otherWhats() {
        Check.sentence(10, "REFUSED .. for others");
        CageKernel k = new CageKernel();
        k.node(0, 1, Check.FILE, 0);
        Check.outside("directory, what", 0, 5, REFUSED, what -> k.file(0, what));
        Check.outside("file, what", 0, 5, REFUSED, what -> k.file(1, what));
    }
}
