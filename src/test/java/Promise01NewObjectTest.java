/** A new object: NODE 0 alone, no cages, no PROCESSES, empty FILTERS. */
public final class Promise01NewObjectTest {
    public static void main(String[] args) {
        nodeZeroAlone(new CageKernel());
        noCages(new CageKernel());
        noProcesses(new CageKernel());
        emptyFilters(new CageKernel());
        objectsAreApart();
        allCallsOfAnObject();
        Check.end();
    }

    private static void nodeZeroAlone(CageKernel k) {
        Check.sentence(1, "NODE 0 alone");
        Check.due("count", 1, k.count(0));
        Check.row("node 0", what -> k.file(0, what), 0, 0, -1, 0, 0, -1);
        for (int n = 1; n < 32; n++) {
            Check.due("no node " + n, CageKernel.REFUSED, k.file(n, 0));
        }
    }

    private static void noCages(CageKernel k) {
        Check.sentence(1, "no cages");
        Check.due("count", 0, k.count(1));
        for (int c = 0; c < 4; c++) {
            Check.due("no cage " + c, CageKernel.REFUSED, k.look(c, 0));
            Check.due("none to start, " + c, CageKernel.REFUSED, k.start(c, 0, -1));
            Check.due("none to be in, " + c, CageKernel.REFUSED, k.cage(0, 0, 1, c, 0));
        }
    }

    private static void noProcesses(CageKernel k) {
        Check.sentence(1, "no PROCESSES");
        Check.due("live", 0, k.count(2));
        Check.due("zombies", 0, k.count(3));
        for (int p = 0; p < 16; p++) {
            Check.due("no process " + p, CageKernel.REFUSED, k.process(p, 0));
            Check.due("none that calls, " + p, CageKernel.REFUSED, k.sys(p, Check.NUMBER, 0, 0));
            Check.due("none to kill, " + p, false, k.kill(p));
        }
        Check.due("no call made", 0, k.count(4));
        Check.due("no call stopped", 0, k.count(5));
    }

    private static void emptyFilters(CageKernel k) {
        Check.sentence(1, "empty FILTERS");
        k.cage(0, 0, 1, -1, 255);
        for (int f = 0; f < 4; f++) {
            Check.due("not good, " + f, CageKernel.REFUSED, k.start(0, 0, f));
            Check.due("no steps, " + f, 0, k.wipe(f));
            Check.due("the first step, " + f, 1, k.step(f, 7, 2, 0));
        }
    }

    private static void objectsAreApart() {
        CageKernel used = Check.oneCage(255);
        used.node(0, 1, Check.DIRECTORY, 0);
        used.step(0, 7, 0, 0);
        used.sys(0, Check.NUMBER, 0, 0);
        nodeZeroAlone(new CageKernel());
        noCages(new CageKernel());
        noProcesses(new CageKernel());
        emptyFilters(new CageKernel());
    }

    private static void allCallsOfAnObject() {
        Check.sentence(1, "An object is used for at most 512 calls after it has been made");
        CageKernel k = Check.oneCage(255);
        for (int n = 2; n <= 170; n++) {
            Check.due("fork", n, k.sys(0, Check.FORK, 0, 0));
            Check.due("exit", 0, k.sys(1, Check.EXIT, n, 0));
            Check.due("wait", 256 * n + n, k.sys(0, Check.WAIT, 0, 0));
        }
        Check.due("call 510", 170, k.look(0, 6));
        Check.due("call 511", 3 * 169, k.count(4));
        Check.due("call 512", 1, k.count(2));
    }
}
