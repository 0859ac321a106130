/** count: what the host sees of the whole. A method for each of the document's sentences. */
public final class Promise12CountTest {
    public static void main(String[] args) {
        all();
        nodesAndCages();
        processes();
        callsMade();
        callsStopped();
        others();
        Check.end();
    }

    private static void are(CageKernel k, int... due) {
        Check.row("count", what -> k.count(what), due);
    }

    private static void all() {
        Check.sentence(12, "What 0: NODES; 1: cages; 2: LIVE PROCESSES; 3: ZOMBIES; 4: system calls made so far; ..");
        CageKernel k = new CageKernel();
        are(k, 1, 0, 0, 0, 0, 0);
        k.node(0, 1, Check.DIRECTORY, 0);
        Check.giveAlways(k, 1, 0);
        k.cage(0, 0, 9, -1, 255);
        k.cage(0, 0, 9, -1, 255);
        are(k, 2, 2, 0, 0, 0, 0);
        k.start(0, 255, -1);
        k.start(1, 255, -1);
        k.sys(0, Check.FORK, 0, 0);
        k.sys(0, Check.FORK, 0, 0);
        are(k, 2, 2, 4, 0, 2, 0);
        k.sys(2, Check.FILTER, 1, 0);
        k.sys(2, Check.NUMBER, 0, 0);
        k.kill(3);
        are(k, 2, 2, 2, 2, 4, 1);
        k.sys(0, Check.MAKE, 2, 0);
        k.sys(0, Check.WAIT, 0, 0);
        are(k, 3, 2, 2, 1, 6, 1);
        k.sys(0, Check.REMOVE, 2, 0);
        k.sys(0, Check.EXIT, 0, 0);
        are(k, 2, 2, 1, 0, 8, 1);
    }

    private static void nodesAndCages() {
        Check.sentence(12, "What 0: NODES; 1: cages: as many as there can be");
        CageKernel k = Check.allNodes();
        for (int c = 0; c < 5; c++) {
            k.cage(0, 0, 1, -1, 0);
        }
        are(k, 32, 4, 0, 0, 0, 0);
    }

    private static void processes() {
        Check.sentence(12, "2: LIVE PROCESSES; 3: ZOMBIES: as many as there can be");
        CageKernel k = Check.oneCage(255);
        k.cage(0, 0, 1, -1, 255);
        k.start(1, 0, -1);
        Check.fillProcesses(k, 0);
        are(k, 1, 2, 16, 0);
        for (int p = 2; p <= 15; p++) {
            k.kill(p);
        }
        are(k, 1, 2, 2, 14);
        k.kill(0);
        are(k, 1, 2, 1, 0);
    }

    private static void callsMade() {
        Check.sentence(12, "4: system calls made so far");
        CageKernel k = Check.oneCage(255);
        k.sys(0, Check.FORK, 0, 0);
        k.kill(1);
        Check.due("one", 1, k.count(4));
        k.sys(1, Check.NUMBER, 0, 0);
        k.sys(2, Check.NUMBER, 0, 0);
        k.sys(-1, Check.NUMBER, 0, 0);
        k.sys(16, Check.NUMBER, 0, 0);
        Check.due("a refused one is not made", 1, k.count(4));
        k.sys(0, Check.READ, 9, 0);
        Check.due("one that answers MISSING is", 2, k.count(4));
        k.sys(0, 18, 0, 0);
        Check.due("one that answers UNKNOWN is", 3, k.count(4));
        k.sys(0, Check.EXIT, 0, 0);
        Check.due("the last one is, too", 4, k.count(4));
    }

    private static void callsStopped() {
        Check.sentence(12, "5: of these KILLED or FILTERED");
        CageKernel k = Check.oneCage(255);
        Check.giveAlways(k, 0, 1);
        Check.giveAlways(k, 1, 0);
        Check.giveAlways(k, 2, 2);
        for (int f = 0; f <= 2; f++) {
            k.sys(0, Check.FORK, 0, 0);
            k.sys(f + 1, Check.FILTER, f, 0);
        }
        are(k, 1, 1, 4, 0, 6, 0);
        k.sys(1, Check.NUMBER, 0, 0);
        are(k, 1, 1, 4, 0, 7, 1);
        k.sys(2, Check.NUMBER, 0, 0);
        are(k, 1, 1, 3, 1, 8, 2);
        k.sys(3, Check.NUMBER, 0, 0);
        are(k, 1, 1, 3, 1, 9, 2);
        k.sys(2, Check.NUMBER, 0, 0);
        are(k, 1, 1, 3, 1, 9, 2);
        k.sys(0, Check.KILL, 2, 0);
        are(k, 1, 1, 2, 2, 10, 2);
    }

    private static void others() {
        Check.sentence(12, "REFUSED for others");
        CageKernel k = new CageKernel();
        Check.outside("what", 0, 5, CageKernel.REFUSED, what -> k.count(what));
    }
}
