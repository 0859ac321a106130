/** look: what the host sees of a cage. A method for each of the document's sentences. */
public final class Promise11LookTest {
    private static final int REFUSED = CageKernel.REFUSED;

    public static void main(String[] args) {
        cagesInCages();
        usedNodes();
        usedProcesses();
        fullCage();
        numbersGiven();
        noCage();
        otherWhats();
        Check.end();
    }

    private static void all(CageKernel k, int c, int... due) {
        Check.row("cage " + c, what -> k.look(c, what), due);
    }

    private static void cagesInCages() {
        Check.sentence(11, "Of cage c what 0: 1 if it is started, else 0; 1: NODES USED; 2: PROCESSES USED; ..");
        CageKernel k = new CageKernel();
        k.node(0, 1, Check.DIRECTORY, 0);
        k.cage(0, 0, 256, -1, 255);
        k.cage(0, 0, 256, 0, 255);
        k.cage(0, 0, 256, 1, 255);
        all(k, 0, 0, 0, 0, 0, 0, 0, 0, -1);
        k.start(0, 255, -1);
        k.start(2, 255, -1);
        all(k, 0, 1, 0, 2, 0, 0, 0, 1, -1);
        all(k, 1, 0, 0, 1, 0, 0, 0, 0, 0);
        all(k, 2, 1, 0, 1, 0, 0, 0, 1, 1);
        k.sys(1, Check.FORK, 0, 0);
        k.sys(1, Check.FORK, 0, 0);
        k.sys(3, Check.EXIT, 0, 0);
        k.sys(1, Check.MAKE, 2, 0);
        k.sys(1, Check.MAKE, 3, 0);
        k.sys(0, Check.MAKE, 4, 0);
        k.sys(1, Check.MOUNT, 1, 2);
        k.sys(1, Check.SEND, 0, 1);
        k.sys(1, Check.SEND, 0, 1);
        k.sys(1, Check.SEND, 1, 1);
        all(k, 2, 1, 2, 3, 1, 2, 1, 3, 1);
        all(k, 1, 0, 2, 3, 0, 0, 0, 0, 0);
        all(k, 0, 1, 3, 4, 0, 0, 0, 1, -1);
        k.kill(1);
        all(k, 2, 0, 2, 0, 0, 0, 0, 3, 1);
        all(k, 0, 1, 3, 1, 0, 0, 0, 1, -1);
    }

    private static void usedNodes() {
        Check.sentence(11, "USED by a cage: the NODES that its PROCESSES, and those of cages in it (at any depth), "
                + "have made and that are there still");
        CageKernel k = new CageKernel();
        for (int c = 0; c < 4; c++) {
            k.cage(0, 0, 256, c - 1, 255);
            k.start(c, 255, -1);
            k.sys(c, Check.MAKE, c + 1, 0);
        }
        for (int c = 0; c < 4; c++) {
            Check.due("its own and those of cages in it", 4 - c, k.look(c, 1));
        }
        k.kill(3);
        Check.due("its end takes none away", 4, k.look(0, 1));
        k.start(3, 255, -1);
        Check.due("nor a new start", 1, k.look(3, 1));
        k.sys(0, Check.REMOVE, 4, 0);
        for (int c = 0; c < 4; c++) {
            Check.due("gone, by whomever", 3 - c, k.look(c, 1));
        }
        k.node(0, 4, Check.DIRECTORY, 0);
        Check.due("the host's do not count, though the number is the same", 0, k.look(3, 1));
    }

    private static void usedProcesses() {
        Check.sentence(11, "and the PROCESSES of all these that are LIVE or ZOMBIES");
        CageKernel k = new CageKernel();
        for (int c = 0; c < 4; c++) {
            k.cage(0, 0, 256, c - 1, 255);
            k.start(c, 255, -1);
        }
        k.sys(3, Check.FORK, 0, 0);
        int[] live = {5, 4, 3, 2};
        for (int c = 0; c < 4; c++) {
            Check.due("live", live[c], k.look(c, 2));
        }
        k.kill(4);
        for (int c = 0; c < 4; c++) {
            Check.due("a zombie, too", live[c], k.look(c, 2));
        }
        k.sys(3, Check.WAIT, 0, 0);
        for (int c = 0; c < 4; c++) {
            Check.due("gone", live[c] - 1, k.look(c, 2));
        }
    }

    private static void fullCage() {
        Check.sentence(11, "3: how many MOUNTS; 4, 5: how many are in queue 0, 1");
        CageKernel k = Check.oneCage(255);
        for (int name = 1; name <= 6; name++) {
            k.node(0, name, Check.DIRECTORY, 0);
        }
        for (int n = 1; n <= 5; n++) {
            k.sys(0, Check.MOUNT, n, 6);
            k.sys(0, Check.SEND, 1, n);
            Check.due("mounts", Math.min(n, 4), k.look(0, 3));
            Check.due("queue 0", 0, k.look(0, 4));
            Check.due("queue 1", Math.min(n, 3), k.look(0, 5));
        }
        k.sys(0, Check.UNMOUNT, 1, 0);
        k.sys(0, Check.TAKE, 1, 0);
        k.sys(0, Check.SEND, 0, 0);
        all(k, 0, 1, 0, 1, 3, 1, 2, 1, -1);
    }

    private static void numbersGiven() {
        Check.sentence(11, "6: how many numbers it gave to PROCESSES since it was started last");
        CageKernel k = new CageKernel();
        k.cage(0, 0, 256, -1, 0x2f);
        Check.due("never started", 0, k.look(0, 6));
        k.start(0, 255, -1);
        Check.due("init", 1, k.look(0, 6));
        k.sys(0, Check.FORK, 0, 0);
        Check.due("a child", 2, k.look(0, 6));
        k.sys(0, Check.FORK, 0, 0);
        Check.due("a refused fork gives none", 2, k.look(0, 6));
        k.kill(1);
        k.sys(0, Check.WAIT, 0, 0);
        Check.due("a process that is gone counts", 2, k.look(0, 6));
        k.kill(0);
        Check.due("not started any more", 2, k.look(0, 6));
        k.start(0, 255, -1);
        Check.due("started anew", 1, k.look(0, 6));
    }

    private static void noCage() {
        Check.sentence(11, "REFUSED if there is none");
        CageKernel k = new CageKernel();
        for (int there = 0; there <= 4; there++) {
            int what = there;
            Check.outside("cage", 0, there - 1, REFUSED, c -> k.look(c, what));
            k.cage(0, 0, 1, -1, 255);
        }
        Check.due("the last one", 0, k.look(3, 0));
    }

    private static void otherWhats() {
        Check.sentence(11, "REFUSED .. for others");
        CageKernel k = new CageKernel();
        k.cage(0, 0, 1, -1, 255);
        Check.outside("what", 0, 7, REFUSED, what -> k.look(0, what));
    }
}
