/** cage: a new cage, not started. */
public final class Promise03CageTest {
    public static void main(String[] args) {
        ordinary();
        refusals();
        edges();
        limits();
        Check.end();
    }

    private static void ordinary() {
        CageKernel k = new CageKernel();
        k.node(0, 1, Check.DIRECTORY, 10);
        Check.due("cage 0", 0, k.cage(1, 10, 5, -1, 0x21));
        Check.due("cage 1", 1, k.cage(0, 0, 1, 0, 0x21));
        Check.due("cage 2", 2, k.cage(0, 0, 1, 1, 0x21));
        Check.due("cage 3", 3, k.cage(0, 0, 1, 0, 0x21));
        int[] outers = {-1, 0, 1, 0};
        for (int c = 0; c < 4; c++) {
            Check.due("not started " + c, 0, k.look(c, 0));
            Check.due("outer of " + c, outers[c], k.look(c, 7));
            Check.due("numbers given by " + c, 0, k.look(c, 6));
        }
        Check.due("full", CageKernel.FULL, k.cage(0, 0, 1, -1, 0));
        Check.due("refused before full", CageKernel.REFUSED, k.cage(0, 0, 0, -1, 0));
        Check.due("count", 4, k.count(1));
        Check.due("start", 0, k.start(0, 255, -1));
        Check.due("it sees its root as the top", 0, k.sys(0, Check.LOOK, Check.path(Check.UP), 0));
    }

    private static void refusals() {
        CageKernel k = new CageKernel();
        k.node(0, 1, Check.FILE, 0);
        for (int root : new int[] {1, 2, -1, 32, Check.LEAST, Check.MOST}) {
            Check.due("root " + root, CageKernel.REFUSED, k.cage(root, 0, 1, -1, 0));
        }
        for (int low : new int[] {-1, 256, Check.LEAST, Check.MOST}) {
            Check.due("low " + low, CageKernel.REFUSED, k.cage(0, low, 1, -1, 0));
        }
        for (int count : new int[] {0, -1, 257, Check.LEAST, Check.MOST}) {
            Check.due("count " + count, CageKernel.REFUSED, k.cage(0, 0, count, -1, 0));
        }
        Check.due("count beyond the host's users", CageKernel.REFUSED, k.cage(0, 100, 157, -1, 0));
        Check.due("count beyond the last user", CageKernel.REFUSED, k.cage(0, 255, 2, -1, 0));
        for (int outer : new int[] {0, 1, -2, 4, Check.LEAST, Check.MOST}) {
            Check.due("outer " + outer, CageKernel.REFUSED, k.cage(0, 0, 1, outer, 0));
        }
        for (int limits : new int[] {-1, 256, Check.LEAST, Check.MOST}) {
            Check.due("limits " + limits, CageKernel.REFUSED, k.cage(0, 0, 1, -1, limits));
        }
        Check.due("none was made", 0, k.count(1));
    }

    private static void edges() {
        CageKernel k = new CageKernel();
        Check.due("all users", 0, k.cage(0, 0, 256, -1, 255));
        Check.due("up to the last user", 1, k.cage(0, 100, 156, 0, 0));
        Check.due("the last user alone", 2, k.cage(0, 255, 1, 1, 255));
    }

    /** NODES in the lowest four bits, PROCESSES in the next four. */
    private static void limits() {
        CageKernel k = new CageKernel();
        k.cage(0, 0, 256, -1, 0x21);
        Check.due("first process", 0, k.start(0, 255, -1));
        Check.due("second process", 2, k.sys(0, Check.FORK, 0, 0));
        Check.due("third process", CageKernel.QUOTA, k.sys(0, Check.FORK, 0, 0));
        Check.due("first node", 1, k.sys(0, Check.MAKE, 1, 0));
        Check.due("second node", CageKernel.QUOTA, k.sys(0, Check.MAKE, 2, 0));
        k.cage(0, 0, 256, -1, 0x0f);
        Check.due("no process", CageKernel.QUOTA, k.start(1, 255, -1));
        k.cage(0, 0, 256, -1, 0xf0);
        Check.due("a process", 2, k.start(2, 255, -1));
        Check.due("no node", CageKernel.QUOTA, k.sys(2, Check.MAKE, 2, 0));
    }
}
