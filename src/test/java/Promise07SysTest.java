/** sys: who may call, what is counted, how FILTERS come before the call, and numbers that are no call. */
public final class Promise07SysTest {
    public static void main(String[] args) {
        whoMayCall();
        unknownNumbers();
        filtersComeFirst();
        theLeastCounts();
        killedByFilter();
        Check.end();
    }

    private static void whoMayCall() {
        CageKernel k = Check.oneCage(255);
        k.sys(0, Check.FORK, 0, 0);
        k.kill(1);
        for (int p : new int[] {1, 2, 15, 16, -1, Check.LEAST, Check.MOST}) {
            Check.due("process " + p, CageKernel.REFUSED, k.sys(p, Check.NUMBER, 0, 0));
        }
        Check.due("a refused one is not made", 1, k.count(4));
        Check.due("number", 1, k.sys(0, Check.NUMBER, 5, 6));
        Check.due("made", 2, k.count(4));
        Check.due("none stopped", 0, k.count(5));
    }

    private static void unknownNumbers() {
        CageKernel k = Check.oneCage(255);
        for (int call : new int[] {18, -1, 19, 255, Check.LEAST, Check.MOST}) {
            Check.due("call " + call, CageKernel.UNKNOWN, k.sys(0, call, 0, 0));
        }
        Check.due("they are made, too", 6, k.count(4));
    }

    private static void filtersComeFirst() {
        CageKernel k = new CageKernel();
        Check.giveAlways(k, 0, 1);
        k.cage(0, 0, 9, -1, 255);
        k.start(0, 255, 0);
        for (int call = -1; call <= 18; call++) {
            Check.due("call " + call, CageKernel.FILTERED, k.sys(0, call, 1, 1));
        }
        Check.due("made", 20, k.count(4));
        Check.due("stopped", 20, k.count(5));
        Check.due("nothing was done", 1, k.count(0));
        Check.due("still one process", 1, k.count(2));
        Check.due("still one filter", 1, k.process(0, 9));
        Check.due("empty queue", 0, k.look(0, 5));
    }

    private static void theLeastCounts() {
        CageKernel k = new CageKernel();
        callsAbove(k, 0, 5, 1);
        callsAbove(k, 1, 10, 0);
        Check.giveAlways(k, 2, 2);
        k.cage(0, 0, 9, -1, 255);
        k.start(0, 255, -1);
        k.sys(0, Check.FORK, 0, 0);
        Check.due("first", 0, k.sys(1, Check.FILTER, 2, 0));
        Check.due("second", 0, k.sys(1, Check.FILTER, 1, 0));
        Check.due("14 is above 10", CageKernel.KILLED, k.sys(1, Check.FILTER, 0, 0));
        k.sys(0, Check.WAIT, 0, 0);
        k.wipe(1);
        callsAbove(k, 1, 14, 0);
        k.sys(0, Check.FORK, 0, 0);
        Check.due("killing one", 0, k.sys(1, Check.FILTER, 1, 0));
        Check.due("filtering one", 0, k.sys(1, Check.FILTER, 0, 0));
        Check.due("all let it in", 3, k.sys(1, Check.NUMBER, 0, 0));
        Check.due("one filters", CageKernel.FILTERED, k.sys(1, Check.TAKE - 2, 0, 0));
        Check.due("one kills, a later one filters", CageKernel.KILLED, k.sys(1, Check.SEND, 0, 0));
        Check.due("stopped", 3, k.count(5));
    }

    /** Calls above the number get what, the others are let in. */
    private static void callsAbove(CageKernel k, int f, int number, int what) {
        k.step(f, 0, 0, 0);
        k.step(f, 5, number, 1);
        k.step(f, 7, 2, 0);
        k.step(f, 7, what, 0);
    }

    private static void killedByFilter() {
        CageKernel k = new CageKernel();
        Check.giveAlways(k, 0, 0);
        k.cage(0, 0, 9, -1, 255);
        k.start(0, 255, -1);
        k.sys(0, Check.FORK, 0, 0);
        k.sys(1, Check.FILTER, 0, 0);
        Check.due("an unknown number, too", CageKernel.KILLED, k.sys(1, 99, 0, 0));
        Check.due("a zombie", 2, k.process(1, 0));
        Check.due("with 137", 137, k.process(1, 10));
        Check.due("it makes no call", CageKernel.REFUSED, k.sys(1, 0, 0, 0));
        Check.due("waited for", 2 * 256 + 137, k.sys(0, Check.WAIT, 0, 0));
        k.sys(0, Check.FORK, 0, 0);
        k.sys(0, Check.FILTER, 0, 0);
        Check.due("init is killed", CageKernel.KILLED, k.sys(0, Check.NUMBER, 0, 0));
        Check.due("with all of its cage", 0, k.count(2) + k.count(3));
        Check.due("stopped", 2, k.count(5));
    }
}
