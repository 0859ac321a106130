/** What the steps of a FILTER do, which FILTERS are GOOD, and call 14 FILTER. A method for each sentence. */
public final class Promise07FilterStepsTest {
    private static final int LET_IN = 0, STOPPED = CageKernel.FILTERED, REFUSED = CageKernel.REFUSED;
    private static final int OP_SAME = 4, OP_ABOVE = 5, OP_PASS = 6;

    public static void main(String[] args) {
        zeroAtFirst();
        numberAndArguments();
        and();
        same();
        above();
        pass();
        give();
        upToTenSteps();
        emptyIsNotGood();
        lastStepIsGive();
        lastStepIsPassedOver();
        callFilterKind();
        callFilterFull();
        Check.end();
    }

    /** SEND's answer with a FILTER of these steps (op, a, b each): 0 or FILTERED; REFUSED if it is not GOOD. */
    private static int send(int a, int b, int... steps) {
        CageKernel k = new CageKernel();
        for (int i = 0; i + 2 < steps.length; i += 3) {
            k.step(0, steps[i], steps[i + 1], steps[i + 2]);
        }
        k.cage(0, 0, 9, -1, 255);
        return k.start(0, 255, 0) < 0 ? REFUSED : k.sys(0, Check.SEND, a, b);
    }

    /** Whether X is the value after these steps. */
    private static void xIs(String what, int value, int a, int b, int... first) {
        int[] steps = java.util.Arrays.copyOf(first, first.length + 9);
        int[] rest = {OP_SAME, value, 1, 7, 1, 0, 7, 2, 0};
        System.arraycopy(rest, 0, steps, first.length, rest.length);
        Check.due(what, LET_IN, send(a, b, steps));
        steps[first.length + 1] = value + 1;
        Check.due(what + " and no other", STOPPED, send(a, b, steps));
    }

    private static void zeroAtFirst() {
        Check.sentence(7, "with an int X, at first 0");
        xIs("x is 0", 0, 1, 7);
        xIs("with AND, too", 0, 1, 7, 3, -1, 0);
        CageKernel k = new CageKernel();
        int[][] steps = {{OP_SAME, 0, 1}, {7, 1, 0}, {2, 0, 0}, {7, 2, 0}};
        for (int[] step : steps) {
            k.step(0, step[0], step[1], step[2]);
        }
        k.cage(0, 0, 9, -1, 255);
        k.start(0, 255, 0);
        for (int n = 0; n < 3; n++) {
            Check.due("before every call", LET_IN, k.sys(0, Check.SEND, 0, 7));
        }
    }

    private static void numberAndArguments() {
        Check.sentence(7, "0 CALL: X is the number of the call   1 FIRST, 2 SECOND: X is its argument");
        xIs("the number of the call", Check.SEND, 1, 7, 0, 0, 0);
        xIs("the first argument", 1, 1, 7, 1, 0, 0);
        xIs("the second argument", -7, 1, -7, 2, 0, 0);
        xIs("the least argument", Check.LEAST, 1, Check.LEAST, 2, 0, 0);
        xIs("the highest argument", Check.MOST, 1, Check.MOST, 2, 0, 0);
        xIs("the latest counts", 1, 1, 7, 2, 0, 0, 1, 0, 0);
        xIs("its a and b do not matter", 7, 1, 7, 2, 5, 3);
    }

    private static void and() {
        Check.sentence(7, "3 AND a");
        xIs("some bits", 0x10, 1, 0x35, 2, 0, 0, 3, 0x18, 0);
        xIs("no bits", 0, 1, 0x35, 2, 0, 0, 3, 0, 0);
        xIs("all bits", -7, 1, -7, 2, 0, 0, 3, -1, 0);
        xIs("the highest bit", Check.LEAST, 1, -1, 2, 0, 0, 3, Check.LEAST, 0);
        xIs("one after another", 0x08, 1, -1, 2, 0, 0, 3, 0x18, 0, 3, 0x0c, 0);
    }

    /** SECOND, then the step, that passes over the one that stops. */
    private static int ifB(int b, int op, int a) {
        return send(0, b, 2, 0, 0, op, a, 1, 7, 1, 0, 7, 2, 0);
    }

    private static void same() {
        Check.sentence(7, "4 SAME a b: if X is a, the next b steps are passed over");
        for (int a : new int[] {10, 0, -1, Check.LEAST, Check.MOST}) {
            Check.due("the same as " + a, LET_IN, ifB(a, OP_SAME, a));
            Check.due("one above " + a, STOPPED, ifB(a + 1, OP_SAME, a));
            Check.due("one below " + a, STOPPED, ifB(a - 1, OP_SAME, a));
        }
        Check.due("over none", STOPPED, send(0, 0, OP_SAME, 0, 0, 7, 1, 0, 7, 2, 0));
        Check.due("over two", LET_IN, send(0, 0, OP_SAME, 0, 2, 7, 1, 0, 7, 1, 0, 7, 2, 0));
        Check.due("not the third", STOPPED, send(0, 0, OP_SAME, 0, 2, 7, 2, 0, 7, 2, 0, 7, 1, 0, 7, 2, 0));
    }

    private static void above() {
        Check.sentence(7, "5 ABOVE a b: likewise if X is above a");
        for (int a : new int[] {10, 0, -1}) {
            Check.due("one above " + a, LET_IN, ifB(a + 1, OP_ABOVE, a));
            Check.due("the same as " + a, STOPPED, ifB(a, OP_ABOVE, a));
            Check.due("one below " + a, STOPPED, ifB(a - 1, OP_ABOVE, a));
            Check.due("the most is above " + a, LET_IN, ifB(Check.MOST, OP_ABOVE, a));
            Check.due("the least is not above " + a, STOPPED, ifB(Check.LEAST, OP_ABOVE, a));
        }
        Check.due("-1 is above the least", LET_IN, ifB(-1, OP_ABOVE, Check.LEAST));
        Check.due("the most is above the least", LET_IN, ifB(Check.MOST, OP_ABOVE, Check.LEAST));
        Check.due("the least is not above itself", STOPPED, ifB(Check.LEAST, OP_ABOVE, Check.LEAST));
        Check.due("nothing is above the most", STOPPED, ifB(Check.MOST, OP_ABOVE, Check.MOST));
        Check.due("over none", STOPPED, send(0, 0, OP_ABOVE, -1, 0, 7, 1, 0, 7, 2, 0));
        Check.due("over two", LET_IN, send(0, 0, OP_ABOVE, -1, 2, 7, 1, 0, 7, 1, 0, 7, 2, 0));
    }

    private static void pass() {
        Check.sentence(7, "6 PASS b: always");
        Check.due("over none", STOPPED, send(0, 0, OP_PASS, 0, 0, 7, 1, 0, 7, 2, 0));
        Check.due("over one", LET_IN, send(0, 0, OP_PASS, 0, 1, 7, 1, 0, 7, 2, 0));
        Check.due("over two", LET_IN, send(0, 0, OP_PASS, 0, 2, 7, 1, 0, 7, 1, 0, 7, 2, 0));
        Check.due("its a does not matter", LET_IN, send(0, 5, 2, 0, 0, OP_PASS, 9, 1, 7, 1, 0, 7, 2, 0));
        Check.due("no others", STOPPED, send(0, 0, 0, 0, 1, 1, 0, 1, 2, 0, 1, 3, 0, 1, 7, 1, 1, 7, 2, 0));
    }

    private static void give() {
        Check.sentence(7, "7 GIVE a (0 KILLED, 1 FILTERED, 2 let in)");
        Check.due("killed", CageKernel.KILLED, send(0, 0, 7, 0, 0));
        Check.due("filtered", CageKernel.FILTERED, send(0, 0, 7, 1, 0));
        Check.due("let in", LET_IN, send(0, 0, 7, 2, 0));
        Check.due("the first that is come to counts", LET_IN, send(0, 0, 7, 2, 0, 7, 1, 0, 7, 0, 0));
    }

    /** These steps, then more that stop, so that there are ten with the last one, that lets in. */
    private static int sendWithTen(int... first) {
        int[] steps = java.util.Arrays.copyOf(first, 30);
        for (int i = first.length; i < 30; i += 3) {
            steps[i] = 7;
            steps[i + 1] = i == 27 ? 2 : 1;
        }
        return send(0, 0, steps);
    }

    private static void upToTenSteps() {
        Check.sentence(7, "rows of up to 10 steps");
        Check.due("over eight to the tenth", LET_IN, sendWithTen(OP_PASS, 0, 8));
        Check.due("over seven to the ninth", STOPPED, sendWithTen(OP_PASS, 0, 7));
        Check.due("by one and one", LET_IN, sendWithTen(OP_PASS, 0, 1, 7, 1, 0, OP_PASS, 0, 6));
        int[] steps = new int[30];
        steps[27] = 7;
        steps[28] = 2;
        Check.due("one after another", LET_IN, send(0, 0, steps));
    }

    private static void emptyIsNotGood() {
        Check.sentence(7, "One is GOOD if it is not empty");
        Check.due("empty", REFUSED, send(0, 0));
        Check.due("one step", LET_IN, send(0, 0, 7, 2, 0));
    }

    private static void lastStepIsGive() {
        Check.sentence(7, "its last step is GIVE");
        for (int op = 0; op <= 6; op++) {
            Check.due("op " + op + " alone", REFUSED, send(0, 0, op, 0, 0));
            Check.due("op " + op + " behind a give", REFUSED, send(0, 0, 7, 2, 0, op, 0, 0));
            Check.due("op " + op + " before it", LET_IN, send(0, 0, op, 0, 0, 7, 2, 0));
        }
        Check.due("op 0 as the tenth", REFUSED, send(0, 0, 7, 2, 0, 7, 2, 0, 7, 2, 0, 7, 2, 0, 7, 2, 0, 7, 2, 0,
                7, 2, 0, 7, 2, 0, 7, 2, 0, 0, 0, 0));
    }

    private static void lastStepIsPassedOver() {
        Check.sentence(7, "and no step passes over the last one");
        for (int op = OP_SAME; op <= OP_PASS; op++) {
            Check.due("over the last, op " + op, REFUSED, send(0, 0, 7, 2, 0, op, 99, 1, 7, 2, 0));
            Check.due("beyond the last, op " + op, REFUSED, send(0, 0, 7, 2, 0, op, 9, 9, 7, 2, 0));
            Check.due("up to the last, op " + op, LET_IN, send(0, 0, 7, 2, 0, op, 99, 1, 7, 1, 0, 7, 2, 0));
            Check.due("over nine of ten, op " + op, REFUSED, sendWithTen(op, 0, 9));
            Check.due("over the last from the first of two, op " + op, REFUSED, send(0, 0, op, 99, 1, 7, 2, 0));
        }
        for (int op = 0; op <= 3; op++) {
            Check.due("b of op " + op + " does not matter", LET_IN, send(0, 0, op, 0, 9, 7, 2, 9));
        }
    }

    private static void callFilterKind() {
        Check.sentence(7, "14 FILTER a: KIND if it is no GOOD FILTER");
        CageKernel k = Check.oneCage(0);
        Check.giveAlways(k, 3, 2);
        k.step(1, 6, 0, 0);
        k.step(2, 6, 0, 1);
        k.step(2, 7, 2, 0);
        Check.outside("filter", 0, 3, CageKernel.KIND, f -> k.sys(0, Check.FILTER, f, 0));
        Check.due("empty", CageKernel.KIND, k.sys(0, Check.FILTER, 0, 0));
        Check.due("the last is no give", CageKernel.KIND, k.sys(0, Check.FILTER, 1, 0));
        Check.due("the last is passed over", CageKernel.KIND, k.sys(0, Check.FILTER, 2, 0));
        Check.due("it has none", 0, k.process(0, 9));
        Check.due("a good one", 0, k.sys(0, Check.FILTER, 3, 0));
        Check.due("it has one", 1, k.process(0, 9));
    }

    private static void callFilterFull() {
        Check.sentence(7, "14 FILTER a: FULL if it has 3; it has it, too: 0");
        CageKernel k = Check.oneCage(0);
        for (int f = 0; f <= 2; f++) {
            Check.giveAlways(k, f, 2);
            Check.due("filter " + f, 0, k.sys(0, Check.FILTER, f, 0));
            Check.due("has", f + 1, k.process(0, 9));
        }
        Check.giveAlways(k, 3, 1);
        Check.due("full", CageKernel.FULL, k.sys(0, Check.FILTER, 3, 0));
        Check.due("has three still", 3, k.process(0, 9));
        Check.due("it has not the fourth", 1, k.sys(0, Check.NUMBER, 0, 0));
        k.wipe(3);
        Check.due("kind before full", CageKernel.KIND, k.sys(0, Check.FILTER, 3, 0));
        Check.due("the child has three, too", 2, k.sys(0, Check.FORK, 0, 0));
        Check.giveAlways(k, 3, 1);
        Check.due("so it is full", CageKernel.FULL, k.sys(1, Check.FILTER, 3, 0));
    }
}
