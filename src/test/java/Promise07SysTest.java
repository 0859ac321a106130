/** sys: who may call, how FILTERS come before the call, and numbers that are no call. A method for each sentence. */
public final class Promise07SysTest {
    private static final int REFUSED = CageKernel.REFUSED;

    public static void main(String[] args) {
        notLive();
        unknownNumbers();
        everyCallIsFiltered();
        theLeastCounts();
        killed();
        initIsKilled();
        filtered();
        letIn();
        theNextCallIsTheFirst();
        Check.end();
    }

    private static void notLive() {
        Check.sentence(7, "PROCESS p, LIVE, makes a system call: its answer. REFUSED if there is none.");
        CageKernel k = Check.oneCage(255);
        k.sys(0, Check.FORK, 0, 0);
        k.sys(0, Check.FORK, 0, 0);
        k.sys(2, Check.EXIT, 0, 0);
        k.sys(0, Check.WAIT, 0, 0);
        k.kill(1);
        String before = Check.seen(k);
        Check.outside("process", 0, 15, REFUSED, p -> k.sys(p, Check.NUMBER, 0, 0));
        Check.each("not there any more, or never", REFUSED, p -> k.sys(p, Check.NUMBER, 0, 0), 2, 3, 15);
        Check.each("a zombie's call", REFUSED, call -> k.sys(1, call, 0, 0), 0, 1, 2, 3, 17, 18);
        Check.unchanged(before, k);
        Check.due("they are not made", 4, k.count(4));
        Check.due("a live one", 1, k.sys(0, Check.NUMBER, 5, 6));
    }

    private static void unknownNumbers() {
        Check.sentence(7, "Other numbers: UNKNOWN.");
        CageKernel k = Check.oneCage(255);
        String before = Check.seen(k);
        Check.outside("call", 0, 17, CageKernel.UNKNOWN, call -> k.sys(0, call, 0, 0));
        Check.unchanged(before, k);
        Check.due("they are made, too", 8, k.count(4));
        Check.due("the last number that is one", 0, k.sys(0, Check.LOOK, 0, 0));
    }

    private static void everyCallIsFiltered() {
        Check.sentence(7, "Before a call all FILTERS of the PROCESS are run");
        CageKernel k = new CageKernel();
        Check.giveAlways(k, 0, 1);
        k.cage(0, 0, 9, -1, 255);
        k.start(0, 255, 0);
        for (int call = -1; call <= 18; call++) {
            Check.due("call " + call, CageKernel.FILTERED, k.sys(0, call, 1, 1));
        }
        Check.due("made", 20, k.count(4));
        Check.due("stopped", 20, k.count(5));
    }

    /** FILTER f gives what before the call NUMBER, and lets all others in. */
    private static void stopNumber(CageKernel k, int f, int what) {
        k.step(f, 0, 0, 0);
        k.step(f, 4, Check.NUMBER, 1);
        k.step(f, 7, 2, 0);
        k.step(f, 7, what, 0);
    }

    private static void theLeastCounts() {
        Check.sentence(7, "the least of what they give counts");
        int[] answers = {CageKernel.KILLED, CageKernel.FILTERED, 1};
        for (int all = 0; all < 27; all++) {
            CageKernel k = Check.oneCage(255);
            int[] given = {all % 3, all / 3 % 3, all / 9};
            for (int f = 0; f < 3; f++) {
                stopNumber(k, f, given[f]);
                Check.due("filter", 0, k.sys(0, Check.FILTER, f, 0));
            }
            int least = Math.min(given[0], Math.min(given[1], given[2]));
            Check.due("least of " + given[0] + given[1] + given[2], answers[least], k.sys(0, Check.NUMBER, 0, 0));
        }
    }

    private static void killed() {
        Check.sentence(7, "with KILLED it ends with 137");
        CageKernel k = Check.oneCage(255);
        Check.giveAlways(k, 0, 0);
        k.sys(0, Check.FORK, 0, 0);
        k.sys(1, Check.FORK, 0, 0);
        k.sys(1, Check.FILTER, 0, 0);
        Check.due("the call is not done", CageKernel.KILLED, k.sys(1, Check.SEND, 0, 0));
        Check.due("the queue is empty", 0, k.look(0, 4));
        Check.due("a zombie", 2, k.process(1, 0));
        Check.due("with 137", 137, k.process(1, 10));
        Check.due("its child has init", 0, k.process(2, 4));
        Check.due("waited for", 2 * 256 + 137, k.sys(0, Check.WAIT, 0, 0));
        k.sys(2, Check.FILTER, 0, 0);
        Check.due("an unknown number, too", CageKernel.KILLED, k.sys(2, 99, 0, 0));
        Check.due("with 137", 137, k.process(2, 10));
    }

    private static void initIsKilled() {
        Check.sentence(7, "with KILLED it ends with 137: INIT");
        CageKernel k = new CageKernel();
        Check.giveAlways(k, 0, 0);
        k.cage(0, 0, 9, -1, 255);
        k.start(0, 255, -1);
        k.sys(0, Check.FORK, 0, 0);
        k.sys(0, Check.FILTER, 0, 0);
        Check.due("killed", CageKernel.KILLED, k.sys(0, Check.NUMBER, 0, 0));
        Check.due("with all of its cage", 0, k.count(2) + k.count(3));
        Check.due("not started any more", 0, k.look(0, 0));
        Check.due("stopped", 1, k.count(5));
    }

    private static void filtered() {
        Check.sentence(7, "with FILTERED nothing is done");
        CageKernel k = Check.oneCage(255);
        for (int name = 1; name <= 3; name++) {
            k.node(0, name, name == 3 ? Check.FILE : Check.DIRECTORY, 0);
        }
        Check.giveAlways(k, 0, 1);
        k.sys(0, Check.FORK, 0, 0);
        k.sys(0, Check.FORK, 0, 0);
        k.kill(2);
        k.sys(0, Check.SEND, 1, 5);
        k.sys(0, Check.FILTER, 0, 0);
        String before = Check.seen(k);
        int[][] calls = {{0, 0, 0}, {1, 0, 0}, {2, 0, 0}, {3, 0, 0}, {4, 3, 0}, {5, 3, 9}, {6, 4, 0}, {7, 1, 0},
            {8, 1, 5}, {9, 1, 0}, {10, 0, 0}, {11, 2, 0}, {12, 1, 2}, {13, 1, 0}, {14, 0, 0}, {15, 0, 1}, {16, 1, 0},
            {17, 1, 0}, {18, 0, 0}};
        for (int[] call : calls) {
            Check.due("call " + call[0], CageKernel.FILTERED, k.sys(0, call[0], call[1], call[2]));
        }
        Check.unchanged(before, k);
    }

    private static void letIn() {
        Check.sentence(7, "else the call is");
        CageKernel k = Check.oneCage(255);
        Check.giveAlways(k, 0, 2);
        for (int n = 0; n < 3; n++) {
            k.sys(0, Check.FILTER, 0, 0);
        }
        Check.due("number", 1, k.sys(0, Check.NUMBER, 0, 0));
        Check.due("send", 0, k.sys(0, Check.SEND, 0, 44));
        Check.due("take", 44, k.sys(0, Check.TAKE, 0, 0));
        Check.due("an unknown number", CageKernel.UNKNOWN, k.sys(0, 18, 0, 0));
        Check.due("none stopped", 0, k.count(5));
    }

    private static void theNextCallIsTheFirst() {
        Check.sentence(7, "Before a call all FILTERS of the PROCESS are run: not one that it only gets, nor others'");
        CageKernel k = Check.oneCage(255);
        Check.giveAlways(k, 0, 1);
        k.sys(0, Check.FORK, 0, 0);
        Check.due("it gets it", 0, k.sys(1, Check.FILTER, 0, 0));
        Check.due("now it has it", CageKernel.FILTERED, k.sys(1, Check.FILTER, 0, 0));
        Check.due("its parent has not", 1, k.sys(0, Check.NUMBER, 0, 0));
        k.sys(0, Check.FILTER, 0, 0);
        Check.due("it, too", CageKernel.FILTERED, k.sys(0, Check.NUMBER, 0, 0));
    }
}
