/** The calls 0 NUMBER, 1 FORK, 2 EXIT, 3 WAIT and 11 KILL. */
public final class Promise07ProcessCallsTest {
    public static void main(String[] args) {
        fork();
        forkFull();
        numbersDoNotComeAgain();
        exitCodes();
        waiting();
        orphans();
        processZeroIsAChild();
        killing();
        killDenied();
        initEnds();
        Check.end();
    }

    private static void fork() {
        CageKernel k = Check.oneCage(15);
        Check.giveAlways(k, 1, 2);
        k.sys(0, Check.FILTER, 1, 0);
        k.sys(0, Check.FILTER, 1, 0);
        k.sys(0, Check.POWERS, 2, 6);
        k.sys(0, Check.POWERS, 0, 5);
        k.sys(0, Check.POWERS, 3, 14);
        k.sys(0, Check.USER, 7, 0);
        k.sys(0, Check.POWERS, 0, 4);
        Check.due("fork", 2, k.sys(0, Check.FORK, 0, 0));
        int[] due = {1, 0, 2, 7, 0, 4, 6, 6, 14, 2, 0};
        for (int what = 0; what < due.length; what++) {
            Check.due("child, " + what, due[what], k.process(1, what));
        }
        Check.due("its number", 2, k.sys(1, Check.NUMBER, 0, 0));
        k.sys(1, Check.POWERS, 0, 0);
        Check.due("its powers are its own", 4, k.process(0, 5));
        k.sys(1, Check.FILTER, 1, 0);
        Check.due("its filters are its own", 2, k.process(0, 9));
    }

    private static void forkFull() {
        CageKernel k = new CageKernel();
        k.cage(0, 0, 9, -1, 255);
        k.cage(0, 0, 9, -1, 0x1f);
        k.start(1, 255, -1);
        k.start(0, 255, -1);
        for (int n = 2; n <= 15; n++) {
            Check.due("fork", n, k.sys(1, Check.FORK, 0, 0));
        }
        Check.due("full before quota", CageKernel.FULL, k.sys(0, Check.FORK, 0, 0));
        Check.due("full", CageKernel.FULL, k.sys(1, Check.FORK, 0, 0));
        k.kill(9);
        Check.due("a zombie is not free", CageKernel.FULL, k.sys(1, Check.FORK, 0, 0));
        k.sys(1, Check.WAIT, 0, 0);
        Check.due("quota when one is free", CageKernel.QUOTA, k.sys(0, Check.FORK, 0, 0));
        Check.due("a fork when one is free", 16, k.sys(1, Check.FORK, 0, 0));
        Check.due("it has the free number", 16, k.process(9, 2));
    }

    private static void numbersDoNotComeAgain() {
        CageKernel k = Check.oneCage(255);
        for (int n = 2; n <= 40; n++) {
            Check.due("fork", n, k.sys(0, Check.FORK, 0, 0));
            k.sys(1, Check.EXIT, n, 0);
            Check.due("wait", 256 * n + n, k.sys(0, Check.WAIT, 0, 0));
        }
        Check.due("numbers given", 40, k.look(0, 6));
    }

    private static void exitCodes() {
        CageKernel k = Check.oneCage(255);
        int[] codes = {0, 255, 256, -1, Check.LEAST, Check.MOST, 0x1234};
        int[] due = {0, 255, 0, 255, 0, 255, 0x34};
        for (int i = 0; i < codes.length; i++) {
            k.sys(0, Check.FORK, 0, 0);
            Check.due("exit", 0, k.sys(1, Check.EXIT, codes[i], 0));
            Check.due("a zombie", 2, k.process(1, 0));
            Check.due("code of " + codes[i], due[i], k.process(1, 10));
            Check.due("waited for", 256 * (i + 2) + due[i], k.sys(0, Check.WAIT, 0, 0));
            Check.due("gone", CageKernel.REFUSED, k.process(1, 0));
        }
    }

    private static void waiting() {
        CageKernel k = Check.oneCage(255);
        Check.due("no child", CageKernel.NONE, k.sys(0, Check.WAIT, 0, 0));
        for (int n = 2; n <= 4; n++) {
            k.sys(0, Check.FORK, 0, 0);
        }
        k.sys(1, Check.FORK, 0, 0);
        Check.due("no zombie", CageKernel.AGAIN, k.sys(0, Check.WAIT, 0, 0));
        k.sys(4, Check.EXIT, 1, 0);
        Check.due("a grandchild does not count", CageKernel.AGAIN, k.sys(0, Check.WAIT, 0, 0));
        k.sys(3, Check.EXIT, 3, 0);
        k.sys(2, Check.EXIT, 2, 0);
        Check.due("the least number", 256 * 3 + 2, k.sys(0, Check.WAIT, 0, 0));
        Check.due("fork again", 6, k.sys(0, Check.FORK, 0, 0));
        k.sys(2, Check.EXIT, 6, 0);
        Check.due("by numbers of processes, not by those of the cage", 256 * 6 + 6, k.sys(0, Check.WAIT, 0, 0));
        Check.due("then the next", 256 * 4 + 3, k.sys(0, Check.WAIT, 0, 0));
        Check.due("one child is live", CageKernel.AGAIN, k.sys(0, Check.WAIT, 0, 0));
        Check.due("the child's own", 256 * 5 + 1, k.sys(1, Check.WAIT, 0, 0));
        Check.due("the child has no other", CageKernel.NONE, k.sys(1, Check.WAIT, 0, 0));
    }

    private static void orphans() {
        CageKernel k = Check.oneCage(255);
        k.sys(0, Check.FORK, 0, 0);
        k.sys(1, Check.FORK, 0, 0);
        k.sys(1, Check.FORK, 0, 0);
        k.sys(2, Check.FORK, 0, 0);
        k.sys(3, Check.EXIT, 33, 0);
        Check.due("parent", 1, k.process(2, 4));
        k.sys(1, Check.EXIT, 11, 0);
        Check.due("its parent stays", 0, k.process(1, 4));
        Check.due("init has the live child", 0, k.process(2, 4));
        Check.due("init has the zombie child", 0, k.process(3, 4));
        Check.due("a grandchild keeps its parent", 2, k.process(4, 4));
        Check.due("used", 5, k.look(0, 2));
        Check.due("zombies", 2, k.count(3));
        Check.due("wait", 256 * 2 + 11, k.sys(0, Check.WAIT, 0, 0));
        Check.due("wait", 256 * 4 + 33, k.sys(0, Check.WAIT, 0, 0));
        Check.due("wait", CageKernel.AGAIN, k.sys(0, Check.WAIT, 0, 0));
        Check.due("used", 3, k.look(0, 2));
    }

    private static void processZeroIsAChild() {
        CageKernel k = Check.oneCage(255);
        k.cage(0, 0, 9, -1, 255);
        k.start(1, 255, -1);
        k.sys(1, Check.FORK, 0, 0);
        k.kill(0);
        Check.due("fork", 3, k.sys(2, Check.FORK, 0, 0));
        Check.due("its parent", 2, k.process(0, 4));
        k.sys(2, Check.EXIT, 5, 0);
        Check.due("init, which is process 1", 1, k.process(0, 4));
        k.sys(0, Check.EXIT, 6, 0);
        Check.due("wait", 256 * 3 + 6, k.sys(1, Check.WAIT, 0, 0));
        Check.due("wait", 256 * 2 + 5, k.sys(1, Check.WAIT, 0, 0));
        Check.due("fork", 4, k.sys(1, Check.FORK, 0, 0));
        Check.due("kill by number", 0, k.sys(1, Check.KILL, 4, 0));
        k.sys(1, Check.EXIT, 0, 0);
        Check.due("nobody is left", 0, k.count(2) + k.count(3));
    }

    private static void killing() {
        CageKernel k = Check.oneCage(0);
        k.cage(0, 0, 256, -1, 255);
        k.start(1, 255, -1);
        k.sys(1, Check.FORK, 0, 0);
        k.sys(1, Check.FORK, 0, 0);
        for (int number : new int[] {0, 2, 3, -1, Check.LEAST, Check.MOST}) {
            Check.due("no number " + number, CageKernel.MISSING, k.sys(0, Check.KILL, number, 0));
        }
        Check.due("init", CageKernel.DENIED, k.sys(0, Check.KILL, 1, 0));
        Check.due("fork", 2, k.sys(0, Check.FORK, 0, 0));
        Check.due("its own user's without a power", 0, k.sys(0, Check.KILL, 2, 0));
        Check.due("a zombie", 2, k.process(4, 0));
        Check.due("with 137", 137, k.process(4, 10));
        Check.due("a zombie is missing", CageKernel.MISSING, k.sys(0, Check.KILL, 2, 0));
        Check.due("others of that number live", 1, k.process(2, 0));
        Check.due("fork", 3, k.sys(0, Check.FORK, 0, 0));
        Check.due("it kills itself", 0, k.sys(5, Check.KILL, 3, 0));
        Check.due("and is a zombie", 2, k.process(5, 0));
    }

    private static void killDenied() {
        CageKernel k = Check.oneCage(255);
        k.sys(0, Check.FORK, 0, 0);
        k.sys(0, Check.FORK, 0, 0);
        k.sys(1, Check.USER, 5, 0);
        Check.due("another user's", CageKernel.DENIED, k.sys(1, Check.KILL, 3, 0));
        Check.due("init, always", CageKernel.DENIED, k.sys(2, Check.KILL, 1, 0));
        Check.due("init by itself", CageKernel.DENIED, k.sys(0, Check.KILL, 1, 0));
        k.sys(2, Check.POWERS, 0, 253);
        Check.due("all powers but kill", CageKernel.DENIED, k.sys(2, Check.KILL, 2, 0));
        k.sys(2, Check.POWERS, 0, 2);
        Check.due("kill alone", 0, k.sys(2, Check.KILL, 2, 0));
        Check.due("it ended", 137, k.process(1, 10));
        Check.due("missing before denied", CageKernel.MISSING, k.sys(1 + 1, Check.KILL, 2, 0));
    }

    private static void initEnds() {
        CageKernel k = Check.oneCage(255);
        k.cage(0, 0, 256, 0, 255);
        k.node(0, 1, Check.DIRECTORY, 0);
        k.sys(0, Check.FORK, 0, 0);
        k.sys(0, Check.FORK, 0, 0);
        k.start(1, 255, -1);
        k.sys(3, Check.FORK, 0, 0);
        k.sys(1, Check.EXIT, 0, 0);
        k.sys(3, Check.SEND, 0, 5);
        k.sys(3, Check.MOUNT, 1, 0);
        k.sys(0, Check.SEND, 0, 5);
        k.sys(0, Check.SEND, 1, 5);
        k.sys(0, Check.MOUNT, 1, 0);
        k.sys(0, Check.MAKE, 2, 0);
        Check.due("used", 5, k.look(0, 2));
        Check.due("exit", 0, k.sys(0, Check.EXIT, 3, 0));
        int[] due = {0, 1, 2, 0, 0, 0, 3, -1};
        int[] inner = {1, 0, 2, 1, 1, 0, 2, 0};
        for (int what = 0; what < due.length; what++) {
            Check.due("cage 0, " + what, due[what], k.look(0, what));
            Check.due("the cage in it goes on, " + what, inner[what], k.look(1, what));
        }
        for (int p = 0; p < 3; p++) {
            Check.due("gone " + p, CageKernel.REFUSED, k.process(p, 0));
        }
        Check.due("live", 2, k.count(2));
        Check.due("zombies", 0, k.count(3));
        Check.due("started anew", 0, k.start(0, 255, -1));
        Check.due("no mount is left", CageKernel.NONE, k.sys(0, Check.UNMOUNT, 1, 0));
        Check.due("no int is left", CageKernel.AGAIN, k.sys(0, Check.TAKE, 0, 0));
    }
}
