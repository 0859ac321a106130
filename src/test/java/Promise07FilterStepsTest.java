/** What the steps of a FILTER do, which FILTERS are GOOD, and call 14 FILTER. */
public final class Promise07FilterStepsTest {
    private static final int LET_IN = 0, STOPPED = CageKernel.FILTERED;

    public static void main(String[] args) {
        whatXIs();
        comparisons();
        passing();
        good();
        callFilter();
        Check.end();
    }

    /** SEND's answer with a FILTER of these steps (op, a, b each): 0 or FILTERED; REFUSED if it is not GOOD. */
    private static int send(int a, int b, int... steps) {
        CageKernel k = new CageKernel();
        for (int i = 0; i + 2 < steps.length; i += 3) {
            k.step(0, steps[i], steps[i + 1], steps[i + 2]);
        }
        k.cage(0, 0, 9, -1, 255);
        return k.start(0, 255, 0) < 0 ? CageKernel.REFUSED : k.sys(0, Check.SEND, a, b);
    }

    /** Whether X is the value after the first step (and the second one). */
    private static void xIs(String what, int value, int a, int b, int... first) {
        int[] steps = java.util.Arrays.copyOf(first, first.length + 9);
        int[] rest = {4, value, 1, 7, 1, 0, 7, 2, 0};
        System.arraycopy(rest, 0, steps, first.length, rest.length);
        Check.due(what, LET_IN, send(a, b, steps));
        steps[first.length + 1] = value + 1;
        Check.due(what + " and no other", STOPPED, send(a, b, steps));
    }

    private static void whatXIs() {
        xIs("x is 0 at first", 0, 1, 7);
        xIs("the number of the call", Check.SEND, 1, 7, 0, 0, 0);
        xIs("the first argument", 1, 1, 7, 1, 0, 0);
        xIs("the second argument", -7, 1, -7, 2, 0, 0);
        xIs("the latest counts", 1, 1, 7, 2, 0, 0, 1, 0, 0);
        xIs("and", 0x10, 1, 0x35, 2, 0, 0, 3, 0x18, 0);
        xIs("and of high bits", Check.LEAST, 1, -1, 2, 0, 0, 3, Check.LEAST, 0);
        xIs("and of x at first", 0, 1, 7, 3, -1, 0);
    }

    private static void comparisons() {
        int[] above = {2, 0, 0, 5, 10, 1, 7, 1, 0, 7, 2, 0};
        Check.due("11 is above 10", LET_IN, send(0, 11, above));
        Check.due("10 is not", STOPPED, send(0, 10, above));
        Check.due("the most is", LET_IN, send(0, Check.MOST, above));
        Check.due("the least is not", STOPPED, send(0, Check.LEAST, above));
        int[] aboveLeast = {2, 0, 0, 5, Check.LEAST, 1, 7, 1, 0, 7, 2, 0};
        Check.due("-1 is above the least", LET_IN, send(0, -1, aboveLeast));
        int[] same = {2, 0, 0, 4, 10, 1, 7, 1, 0, 7, 2, 0};
        Check.due("same", LET_IN, send(0, 10, same));
        Check.due("above is not the same", STOPPED, send(0, 11, same));
        Check.due("below is not the same", STOPPED, send(0, 9, same));
    }

    private static void passing() {
        Check.due("pass over one", LET_IN, send(0, 0, 6, 0, 1, 7, 1, 0, 7, 2, 0));
        Check.due("pass over two", LET_IN, send(0, 0, 6, 0, 2, 7, 1, 0, 7, 1, 0, 7, 2, 0));
        Check.due("pass over none", STOPPED, send(0, 0, 6, 0, 0, 7, 1, 0, 7, 2, 0));
        Check.due("same, passing over none", STOPPED, send(0, 0, 4, 0, 0, 7, 1, 0, 7, 2, 0));
        Check.due("same, passing over two", LET_IN, send(0, 0, 4, 0, 2, 7, 1, 0, 7, 1, 0, 7, 2, 0));
        Check.due("above, passing over two", LET_IN, send(0, 0, 5, -1, 2, 7, 1, 0, 7, 1, 0, 7, 2, 0));
        Check.due("the first give counts", LET_IN, send(0, 0, 7, 2, 0, 7, 1, 0));
        Check.due("b of others passes over nothing", STOPPED, send(0, 0, 0, 0, 1, 3, 0, 1, 7, 1, 0, 7, 2, 0));
        Check.due("over eight to the tenth", LET_IN, send(0, 0, 6, 0, 8, 7, 1, 0, 7, 1, 0, 7, 1, 0, 7, 1, 0,
                7, 1, 0, 7, 1, 0, 7, 1, 0, 7, 1, 0, 7, 2, 0));
    }

    private static void good() {
        Check.due("empty", CageKernel.REFUSED, send(0, 0));
        Check.due("the last is no give", CageKernel.REFUSED, send(0, 0, 7, 2, 0, 0, 0, 0));
        for (int op = 4; op <= 6; op++) {
            Check.due("passes over the last, op " + op, CageKernel.REFUSED, send(0, 0, 7, 2, 0, op, 99, 1, 7, 2, 0));
            Check.due("passes beyond the last, op " + op, CageKernel.REFUSED, send(0, 0, 7, 2, 0, op, 9, 9, 7, 2, 0));
            Check.due("passes up to the last, op " + op, LET_IN, send(0, 0, 7, 2, 0, op, 99, 1, 7, 1, 0, 7, 2, 0));
        }
        for (int op = 0; op <= 3; op++) {
            Check.due("b of op " + op + " does not matter", LET_IN, send(0, 0, op, 0, 9, 7, 2, 9));
        }
        Check.due("over nine of ten", CageKernel.REFUSED, send(0, 0, 6, 0, 9, 7, 2, 0, 7, 2, 0, 7, 2, 0, 7, 2, 0,
                7, 2, 0, 7, 2, 0, 7, 2, 0, 7, 2, 0, 7, 2, 0));
    }

    private static void callFilter() {
        CageKernel k = Check.oneCage(0);
        Check.giveAlways(k, 3, 2);
        k.step(1, 6, 0, 0);
        k.step(2, 6, 0, 1);
        k.step(2, 7, 2, 0);
        for (int f : new int[] {-1, 0, 1, 2, 4, Check.LEAST, Check.MOST}) {
            Check.due("filter " + f, CageKernel.KIND, k.sys(0, Check.FILTER, f, 0));
        }
        for (int n = 1; n <= 3; n++) {
            Check.due("filter the " + n + ". time", 0, k.sys(0, Check.FILTER, 3, 0));
            Check.due("has", n, k.process(0, 9));
        }
        Check.due("full", CageKernel.FULL, k.sys(0, Check.FILTER, 3, 0));
        Check.due("kind before full", CageKernel.KIND, k.sys(0, Check.FILTER, 0, 0));
        Check.due("has three still", 3, k.process(0, 9));
    }
}
