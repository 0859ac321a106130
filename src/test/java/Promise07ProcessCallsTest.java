/** The calls 0 NUMBER, 1 FORK, 2 EXIT, 3 WAIT and 11 KILL, and how PROCESSES end. A method for each sentence. */
public final class Promise07ProcessCallsTest {
    private static final int MISSING = CageKernel.MISSING, DENIED = CageKernel.DENIED, QUOTA = CageKernel.QUOTA;

    public static void main(String[] args) {
        numbersDoNotComeAgain();
        forkFull();
        forkQuota();
        forkQuotaOfCagesAround();
        forkFullBeforeQuota();
        forkLeastNumber();
        aChildIsTheSame();
        exitCodes();
        childrenOfOneThatEnds();
        gone();
        othersEndBeforeInit();
        cageIsNotStarted();
        cagesInItGoOn();
        waitNone();
        waitAgain();
        waitLeastNumber();
        processZeroIsAChild();
        killMissing();
        killInit();
        killAnotherUsers();
        killEnds();
        Check.end();
    }

    private static void numbersDoNotComeAgain() {
        Check.sentence(7, "0 NUMBER: its number in the cage: 1 for .. its INIT, then 2, 3, .. (none comes again before "
                + "it is started anew)");
        CageKernel k = new CageKernel();
        k.cage(0, 0, 9, -1, 0x2f);
        k.start(0, 255, -1);
        for (int n = 2; n <= 40; n++) {
            Check.due("fork", n, k.sys(0, Check.FORK, 0, 0));
            Check.due("its number", n, k.sys(1, Check.NUMBER, 0, 0));
            Check.due("a refused fork takes no number", QUOTA, k.sys(0, Check.FORK, 0, 0));
            k.kill(1);
            k.sys(0, Check.WAIT, 0, 0);
        }
        Check.due("init's number", 1, k.sys(0, Check.NUMBER, 0, 0));
        k.sys(0, Check.EXIT, 0, 0);
        k.start(0, 255, -1);
        Check.due("init's number anew", 1, k.sys(0, Check.NUMBER, 0, 0));
        Check.due("fork anew", 2, k.sys(0, Check.FORK, 0, 0));
    }

    private static void forkFull() {
        Check.sentence(7, "1 FORK: FULL if no PROCESS is free");
        CageKernel k = Check.oneCage(0);
        k.cage(0, 0, 9, -1, 255);
        k.start(1, 0, -1);
        for (int n = 2; n <= 14; n++) {
            Check.due("fork", n, k.sys(0, Check.FORK, 0, 0));
        }
        Check.due("the last that is free", 2, k.sys(1, Check.FORK, 0, 0));
        Check.due("full", CageKernel.FULL, k.sys(0, Check.FORK, 0, 0));
        Check.due("full in the other cage", CageKernel.FULL, k.sys(1, Check.FORK, 0, 0));
        Check.due("a child, too", CageKernel.FULL, k.sys(15, Check.FORK, 0, 0));
        k.kill(9);
        Check.due("a zombie is not free", CageKernel.FULL, k.sys(1, Check.FORK, 0, 0));
        k.sys(0, Check.WAIT, 0, 0);
        Check.due("one is free", 3, k.sys(1, Check.FORK, 0, 0));
        Check.due("live", 16, k.count(2));
    }

    private static void forkQuota() {
        Check.sentence(7, "1 FORK: QUOTA: refused .. if that cage .. has USED as many as its LIMIT");
        for (int limit = 1; limit <= 15; limit++) {
            CageKernel k = new CageKernel();
            k.cage(0, 0, 9, -1, limit << 4);
            k.start(0, 255, -1);
            for (int n = 2; n <= limit; n++) {
                Check.due("fork", n, k.sys(0, Check.FORK, 0, 0));
            }
            Check.due("quota of " + limit, QUOTA, k.sys(0, Check.FORK, 0, 0));
            Check.due("used", limit, k.look(0, 2));
            Check.due("no number was given", limit, k.look(0, 6));
        }
        CageKernel k = new CageKernel();
        k.cage(0, 0, 9, -1, 0x2f);
        k.start(0, 255, -1);
        k.sys(0, Check.FORK, 0, 0);
        k.kill(1);
        Check.due("a zombie is used", QUOTA, k.sys(0, Check.FORK, 0, 0));
        k.sys(0, Check.WAIT, 0, 0);
        Check.due("gone, so there is room", 3, k.sys(0, Check.FORK, 0, 0));
    }

    private static void forkQuotaOfCagesAround() {
        Check.sentence(7, "1 FORK: QUOTA: or one around it (at any depth) has USED as many as its LIMIT");
        CageKernel k = new CageKernel();
        k.cage(0, 0, 9, -1, 0x6f);
        k.cage(0, 0, 9, 0, 0x4f);
        k.cage(0, 0, 9, 1, 0xff);
        k.cage(0, 0, 9, 0, 0xff);
        for (int c = 0; c < 4; c++) {
            k.start(c, 255, -1);
        }
        Check.due("the innermost", 2, k.sys(2, Check.FORK, 0, 0));
        Check.due("used by the outermost one", 5, k.look(0, 2));
        Check.due("one more in the middle one", 2, k.sys(1, Check.FORK, 0, 0));
        Check.due("the middle one's limit binds the innermost", QUOTA, k.sys(2, Check.FORK, 0, 0));
        Check.due("the outermost one's limit binds it", QUOTA, k.sys(0, Check.FORK, 0, 0));
        Check.due("and the other one in it", QUOTA, k.sys(3, Check.FORK, 0, 0));
        k.kill(3);
        Check.due("room in the outermost, not in the middle one", QUOTA, k.sys(2, Check.FORK, 0, 0));
        Check.due("room in the outermost", 2, k.sys(0, Check.FORK, 0, 0));
        Check.due("none any more", QUOTA, k.sys(0, Check.FORK, 0, 0));
        k.kill(2);
        Check.due("the innermost gave two free", 3, k.sys(1, Check.FORK, 0, 0));
        Check.due("both", 4, k.sys(1, Check.FORK, 0, 0));
        Check.due("all are used", QUOTA, k.sys(1, Check.FORK, 0, 0));
    }

    private static void forkFullBeforeQuota() {
        Check.sentence(7, "1 FORK: FULL if no PROCESS is free; QUOTA");
        CageKernel k = Check.oneCage(0);
        k.cage(0, 0, 9, -1, 0x1f);
        k.start(1, 255, -1);
        Check.due("quota when one is free", QUOTA, k.sys(1, Check.FORK, 0, 0));
        Check.fillProcesses(k, 0);
        Check.due("full before quota", CageKernel.FULL, k.sys(1, Check.FORK, 0, 0));
    }

    private static void forkLeastNumber() {
        Check.sentence(7, "PROCESSES 0..15 (a new one gets the least number that is free)");
        CageKernel k = Check.oneCage(0);
        for (int n = 2; n <= 8; n++) {
            k.sys(0, Check.FORK, 0, 0);
            Check.due("one after another", n, k.process(n - 1, 2));
        }
        k.kill(3);
        k.sys(0, Check.WAIT, 0, 0);
        k.kill(5);
        k.sys(0, Check.WAIT, 0, 0);
        int[] places = {3, 5, 8};
        for (int i = 0; i < places.length; i++) {
            Check.due("fork", 9 + i, k.sys(0, Check.FORK, 0, 0));
            Check.due("it is where one is free", 9 + i, k.process(places[i], 2));
        }
    }

    private static void aChildIsTheSame() {
        Check.sentence(7, "1 FORK: a child, with the same user, FILTERS and POWERS: its number in the cage");
        CageKernel k = Check.oneCage(15);
        Check.giveAlways(k, 1, 2);
        k.sys(0, Check.FILTER, 1, 0);
        k.sys(0, Check.FILTER, 1, 0);
        k.sys(0, Check.POWERS, 2, 6);
        k.sys(0, Check.POWERS, 0, 5);
        k.sys(0, Check.POWERS, 3, 14);
        k.sys(0, Check.USER, 7, 0);
        k.sys(0, Check.POWERS, 0, 4);
        Check.due("fork", 2, k.sys(0, Check.FORK, 0, 0));
        Check.row("child", what -> k.process(1, what), 1, 0, 2, 7, 0, 4, 6, 6, 14, 2, 0);
        k.sys(1, Check.POWERS, 0, 0);
        Check.due("its powers are its own", 4, k.process(0, 5));
        k.sys(1, Check.FILTER, 1, 0);
        Check.due("its filters are its own", 2, k.process(0, 9));
    }

    private static void exitCodes() {
        Check.sentence(7, "2 EXIT: it ends with the lowest 8 bits of a: 0; ENDING with a code (0..255)");
        CageKernel k = Check.oneCage(255);
        int[] codes = {0, 1, 255, 256, 257, -1, -256, Check.LEAST, Check.MOST, 0x1234};
        int[] due = {0, 1, 255, 0, 1, 255, 0, 0, 255, 0x34};
        for (int i = 0; i < codes.length; i++) {
            k.sys(0, Check.FORK, 0, 0);
            Check.due("exit", 0, k.sys(1, Check.EXIT, codes[i], 0));
            Check.due("a zombie", 2, k.process(1, 0));
            Check.due("code of " + codes[i], due[i], k.process(1, 10));
            Check.due("waited for", 256 * (i + 2) + due[i], k.sys(0, Check.WAIT, 0, 0));
        }
    }

    private static void childrenOfOneThatEnds() {
        Check.sentence(7, "the PROCESS is a ZOMBIE; its children have INIT as their PARENT");
        CageKernel k = Check.oneCage(255);
        k.sys(0, Check.FORK, 0, 0);
        k.sys(1, Check.FORK, 0, 0);
        k.sys(1, Check.FORK, 0, 0);
        k.sys(2, Check.FORK, 0, 0);
        k.sys(3, Check.EXIT, 33, 0);
        Check.due("parent", 1, k.process(2, 4));
        k.sys(1, Check.EXIT, 11, 0);
        Check.due("its parent stays", 0, k.process(1, 4));
        Check.due("init has the live child", 0, k.process(2, 4));
        Check.due("init has the zombie child", 0, k.process(3, 4));
        Check.due("a grandchild keeps its parent", 2, k.process(4, 4));
        Check.due("zombies", 2, k.count(3));
        Check.due("wait", 256 * 2 + 11, k.sys(0, Check.WAIT, 0, 0));
        Check.due("wait", 256 * 4 + 33, k.sys(0, Check.WAIT, 0, 0));
        Check.due("wait", CageKernel.AGAIN, k.sys(0, Check.WAIT, 0, 0));
    }

    private static void gone() {
        Check.sentence(7, "if it has no PARENT it is gone, and free");
        CageKernel k = Check.oneCage(255);
        Check.due("exit", 0, k.sys(0, Check.EXIT, 5, 0));
        Check.due("gone", CageKernel.REFUSED, k.process(0, 0));
        Check.due("no zombie", 0, k.count(3));
        Check.due("free", 0, k.start(0, 255, -1));
    }

    private static void othersEndBeforeInit() {
        Check.sentence(7, "When INIT ends all others of its cage that are LIVE end .. all ZOMBIES of the cage are "
                + "gone, then INIT is");
        CageKernel k = Check.oneCage(255);
        k.cage(0, 0, 9, -1, 255);
        k.start(1, 255, -1);
        for (int p = 0; p <= 3; p++) {
            k.sys(p == 1 ? 0 : p, Check.FORK, 0, 0);
        }
        k.sys(1, Check.FORK, 0, 0);
        k.sys(3, Check.EXIT, 0, 0);
        Check.due("live", 6, k.count(2));
        Check.due("a zombie", 1, k.count(3));
        Check.due("exit", 0, k.sys(0, Check.EXIT, 3, 0));
        int[] left = {-1, 1, -1, -1, -1, -1, 1};
        for (int p = 0; p < left.length; p++) {
            Check.due("process " + p, left[p], k.process(p, 0));
        }
        Check.due("the other cage's live", 2, k.count(2));
        Check.due("zombies", 0, k.count(3));
        Check.due("used", 0, k.look(0, 2));
    }

    private static void cageIsNotStarted() {
        Check.sentence(7, "the cage is not started any more, its queues are empty, its MOUNTS are gone");
        CageKernel k = Check.oneCage(255);
        k.node(0, 1, Check.DIRECTORY, 0);
        k.sys(0, Check.SEND, 0, 5);
        k.sys(0, Check.SEND, 1, 5);
        k.sys(0, Check.MOUNT, 1, 0);
        k.sys(0, Check.MAKE, 2, 0);
        k.sys(0, Check.FORK, 0, 0);
        k.sys(0, Check.EXIT, 3, 0);
        Check.row("cage 0", what -> k.look(0, what), 0, 1, 0, 0, 0, 0, 2, -1);
        Check.due("started anew", 0, k.start(0, 255, -1));
        Check.due("no mount is left", CageKernel.NONE, k.sys(0, Check.UNMOUNT, 1, 0));
        Check.due("no point is left", 0, k.sys(0, Check.REMOVE, 1, 0));
        Check.due("no int is left", CageKernel.AGAIN, k.sys(0, Check.TAKE, 0, 0));
        Check.due("nor in queue 1", CageKernel.AGAIN, k.sys(0, Check.TAKE, 1, 0));
        for (int n = 0; n < 4; n++) {
            Check.due("room for four mounts", 0, k.sys(0, Check.MOUNT, 2, 2));
        }
    }

    private static void cagesInItGoOn() {
        Check.sentence(7, "(Cages in it go on.)");
        CageKernel k = Check.oneCage(255);
        k.cage(0, 0, 256, 0, 255);
        k.node(0, 1, Check.DIRECTORY, 0);
        k.start(1, 255, -1);
        k.sys(1, Check.FORK, 0, 0);
        k.sys(1, Check.FORK, 0, 0);
        k.kill(3);
        k.sys(1, Check.SEND, 0, 5);
        k.sys(1, Check.MOUNT, 1, 0);
        k.sys(0, Check.EXIT, 3, 0);
        Check.row("cage 1", what -> k.look(1, what), 1, 0, 3, 1, 1, 0, 3, 0);
        Check.due("its init calls", 5, k.sys(1, Check.TAKE, 0, 0));
        Check.due("its zombie is there", 3 * 256 + 137, k.sys(1, Check.WAIT, 0, 0));
        Check.due("it is still used by the outer one", 2, k.look(0, 2));
        Check.due("the outer one is not started", 0, k.look(0, 0));
    }

    private static void waitNone() {
        Check.sentence(7, "3 WAIT: NONE if it has no child");
        CageKernel k = Check.oneCage(255);
        Check.due("no child", CageKernel.NONE, k.sys(0, Check.WAIT, 0, 0));
        k.sys(0, Check.FORK, 0, 0);
        Check.due("the child has none", CageKernel.NONE, k.sys(1, Check.WAIT, 0, 0));
        k.kill(1);
        Check.due("a child", 2 * 256 + 137, k.sys(0, Check.WAIT, 0, 0));
        Check.due("no child any more", CageKernel.NONE, k.sys(0, Check.WAIT, 0, 0));
        k.cage(0, 0, 9, 0, 255);
        k.start(1, 255, -1);
        k.sys(1, Check.FORK, 0, 0);
        k.kill(2);
        Check.due("another cage's zombie is no child", CageKernel.NONE, k.sys(0, Check.WAIT, 0, 0));
    }

    private static void waitAgain() {
        Check.sentence(7, "3 WAIT: AGAIN if none is a ZOMBIE");
        CageKernel k = Check.oneCage(255);
        k.sys(0, Check.FORK, 0, 0);
        k.sys(1, Check.FORK, 0, 0);
        Check.due("no zombie", CageKernel.AGAIN, k.sys(0, Check.WAIT, 0, 0));
        k.kill(2);
        Check.due("a grandchild does not count", CageKernel.AGAIN, k.sys(0, Check.WAIT, 0, 0));
        Check.due("the child's own", 256 * 3 + 137, k.sys(1, Check.WAIT, 0, 0));
        k.sys(1, Check.EXIT, 0, 0);
        Check.due("a zombie", 256 * 2, k.sys(0, Check.WAIT, 0, 0));
    }

    private static void waitLeastNumber() {
        Check.sentence(7, "that with the least number (0..15) is gone: 256 times its number in the cage, and its code");
        CageKernel k = Check.oneCage(255);
        for (int n = 2; n <= 4; n++) {
            k.sys(0, Check.FORK, 0, 0);
        }
        k.sys(3, Check.EXIT, 3, 0);
        k.sys(2, Check.EXIT, 255, 0);
        Check.due("the least number", 256 * 3 + 255, k.sys(0, Check.WAIT, 0, 0));
        Check.due("it is gone", CageKernel.REFUSED, k.process(2, 0));
        Check.due("fork again", 5, k.sys(0, Check.FORK, 0, 0));
        k.sys(2, Check.EXIT, 6, 0);
        Check.due("by numbers of processes, not by those of the cage", 256 * 5 + 6, k.sys(0, Check.WAIT, 0, 0));
        Check.due("then the next", 256 * 4 + 3, k.sys(0, Check.WAIT, 0, 0));
        Check.due("one child is live", CageKernel.AGAIN, k.sys(0, Check.WAIT, 0, 0));
    }

    private static void processZeroIsAChild() {
        Check.sentence(7, "3 WAIT: that with the least number (0..15): PROCESS 0");
        CageKernel k = Check.oneCage(255);
        k.cage(0, 0, 9, -1, 255);
        k.start(1, 255, -1);
        k.sys(1, Check.FORK, 0, 0);
        k.kill(0);
        Check.due("fork", 3, k.sys(2, Check.FORK, 0, 0));
        Check.due("its parent", 2, k.process(0, 4));
        k.sys(2, Check.EXIT, 5, 0);
        Check.due("init, which is process 1", 1, k.process(0, 4));
        k.sys(0, Check.EXIT, 6, 0);
        Check.due("wait", 256 * 3 + 6, k.sys(1, Check.WAIT, 0, 0));
        Check.due("wait", 256 * 2 + 5, k.sys(1, Check.WAIT, 0, 0));
        Check.due("fork", 4, k.sys(1, Check.FORK, 0, 0));
        Check.due("kill by number", 0, k.sys(1, Check.KILL, 4, 0));
        k.sys(1, Check.EXIT, 0, 0);
        Check.due("nobody is left", 0, k.count(2) + k.count(3));
    }

    private static void killMissing() {
        Check.sentence(7, "11 KILL a: MISSING if no LIVE PROCESS of the cage has number a");
        CageKernel k = Check.oneCage(0);
        k.cage(0, 0, 256, 0, 255);
        k.start(1, 255, -1);
        k.sys(1, Check.FORK, 0, 0);
        k.sys(1, Check.FORK, 0, 0);
        k.sys(0, Check.FORK, 0, 0);
        k.kill(4);
        String before = Check.seen(k);
        Check.outside("number", 1, 3, MISSING, number -> k.sys(0, Check.KILL, number, 0));
        Check.due("a zombie's", MISSING, k.sys(0, Check.KILL, 2, 0));
        Check.due("another cage's", MISSING, k.sys(0, Check.KILL, 3, 0));
        Check.unchanged(before, k);
        k.sys(0, Check.WAIT, 0, 0);
        Check.due("one that is gone", MISSING, k.sys(0, Check.KILL, 2, 0));
    }

    private static void killInit() {
        Check.sentence(7, "11 KILL a: DENIED if a is 1");
        CageKernel k = Check.oneCage(255);
        k.sys(0, Check.FORK, 0, 0);
        Check.due("with the power and the same user", DENIED, k.sys(1, Check.KILL, 1, 0));
        Check.due("by itself", DENIED, k.sys(0, Check.KILL, 1, 0));
        k.sys(1, Check.POWERS, 0, 0);
        Check.due("without the power", DENIED, k.sys(1, Check.KILL, 1, 0));
        Check.due("it lives", 1, k.process(0, 0));
    }

    private static void killAnotherUsers() {
        Check.sentence(7, "11 KILL a: DENIED if .. it has another user, and KILL is not in EFFECTIVE");
        CageKernel k = Check.oneCage(255);
        for (int n = 2; n <= 4; n++) {
            k.sys(0, Check.FORK, 0, 0);
        }
        k.sys(1, Check.USER, 5, 0);
        Check.due("user 0's by user 5", DENIED, k.sys(1, Check.KILL, 3, 0));
        k.sys(2, Check.POWERS, 0, 253);
        Check.due("user 5's by user 0, all powers but kill", DENIED, k.sys(2, Check.KILL, 2, 0));
        Check.due("its own user's without kill", 0, k.sys(2, Check.KILL, 4, 0));
        k.sys(2, Check.POWERS, 0, 2);
        Check.due("with kill alone", 0, k.sys(2, Check.KILL, 2, 0));
        k.sys(2, Check.POWERS, 0, 0);
        Check.due("missing before denied", MISSING, k.sys(2, Check.KILL, 2, 0));
    }

    private static void killEnds() {
        Check.sentence(7, "11 KILL a: it ends with 137: 0");
        CageKernel k = Check.oneCage(0);
        k.sys(0, Check.FORK, 0, 0);
        k.sys(1, Check.FORK, 0, 0);
        Check.due("kill", 0, k.sys(2, Check.KILL, 2, 0));
        Check.due("a zombie", 2, k.process(1, 0));
        Check.due("with 137", 137, k.process(1, 10));
        Check.due("its child has init", 0, k.process(2, 4));
        Check.due("it kills itself", 0, k.sys(2, Check.KILL, 3, 0));
        Check.due("and is a zombie", 2, k.process(2, 0));
        Check.due("with 137", 137, k.process(2, 10));
    }
}
