/** step: a further step of a FILTER. A method for each of the document's sentences. */
public final class Promise04StepTest {
    private static final int REFUSED = CageKernel.REFUSED;

    public static void main(String[] args) {
        howManyItHas();
        filters();
        ops();
        passedSteps();
        given();
        othersTakeAnything();
        busy();
        full();
        Check.end();
    }

    private static void howManyItHas() {
        Check.sentence(4, "A further step of FILTER f: how many it has.");
        CageKernel k = new CageKernel();
        for (int n = 1; n <= 10; n++) {
            Check.due("step " + n, n, k.step(3, n % 8, n % 3, n % 10));
        }
        Check.due("another filter", 1, k.step(0, 0, 0, 0));
        Check.due("it had ten", 10, k.wipe(3));
    }

    private static void filters() {
        Check.sentence(4, "REFUSED if f is not 0..3");
        CageKernel k = new CageKernel();
        Check.outside("filter", 0, 3, REFUSED, f -> k.step(f, 0, 0, 0));
        for (int f = 0; f <= 3; f++) {
            Check.due("filter " + f, 1, k.step(f, 0, 0, 0));
        }
    }

    private static void ops() {
        Check.sentence(4, "op not 0..7");
        CageKernel k = new CageKernel();
        Check.outside("op", 0, 7, REFUSED, op -> k.step(0, op, 0, 0));
        for (int op = 0; op <= 7; op++) {
            Check.due("op " + op, op + 1, k.step(0, op, 0, 0));
        }
    }

    private static void passedSteps() {
        Check.sentence(4, "b not 0..9 (4, 5, 6)");
        CageKernel k = new CageKernel();
        for (int op = 4; op <= 6; op++) {
            int number = op;
            Check.outside("op " + op + ", b", 0, 9, REFUSED, b -> k.step(0, number, 0, b));
            Check.due("nothing to pass over", 2 * op - 7, k.step(0, op, Check.LEAST, 0));
            Check.due("the most", 2 * op - 6, k.step(0, op, Check.MOST, 9));
        }
    }

    private static void given() {
        Check.sentence(4, "a not 0..2 (7)");
        CageKernel k = new CageKernel();
        Check.outside("give", 0, 2, REFUSED, a -> k.step(0, 7, a, 0));
        for (int a = 0; a <= 2; a++) {
            Check.due("give " + a, a + 1, k.step(0, 7, a, 0));
        }
    }

    private static void othersTakeAnything() {
        Check.sentence(4, "b not 0..9 (4, 5, 6), or a not 0..2 (7): of the others any a and b are taken");
        CageKernel k = new CageKernel();
        for (int op = 0; op <= 3; op++) {
            Check.due("least a, op " + op, 2 * op + 1, k.step(0, op, Check.LEAST, Check.MOST));
            Check.due("highest a, op " + op, 2 * op + 2, k.step(0, op, Check.MOST, Check.LEAST));
        }
        Check.due("least b for give", 9, k.step(0, 7, 2, Check.LEAST));
        Check.due("highest b for give", 10, k.step(0, 7, 2, Check.MOST));
    }

    private static void busy() {
        Check.sentence(4, "BUSY if a PROCESS has it");
        CageKernel k = Check.oneCage(255);
        Check.giveAlways(k, 1, 2);
        k.sys(0, Check.FORK, 0, 0);
        Check.due("nobody has it", 2, k.step(1, 7, 2, 0));
        k.sys(1, Check.FILTER, 1, 0);
        Check.due("busy", CageKernel.BUSY, k.step(1, 0, 0, 0));
        Check.due("refused before busy (op)", REFUSED, k.step(1, 8, 0, 0));
        Check.due("refused before busy (b)", REFUSED, k.step(1, 6, 0, 10));
        Check.due("refused before busy (a)", REFUSED, k.step(1, 7, 3, 0));
        Check.due("others are not busy", 1, k.step(0, 0, 0, 0));
        k.sys(1, Check.EXIT, 0, 0);
        Check.due("a zombie has it still", CageKernel.BUSY, k.step(1, 0, 0, 0));
        k.sys(0, Check.WAIT, 0, 0);
        Check.due("nobody has it any more", 3, k.step(1, 7, 2, 0));
        k.sys(0, Check.FILTER, 1, 0);
        k.sys(0, Check.FORK, 0, 0);
        Check.due("both have it", CageKernel.BUSY, k.step(1, 0, 0, 0));
        k.kill(0);
        Check.due("gone with the cage", 4, k.step(1, 0, 0, 0));
    }

    private static void full() {
        Check.sentence(4, "FULL if it has 10");
        CageKernel k = new CageKernel();
        for (int n = 1; n <= 10; n++) {
            Check.due("step " + n, n, k.step(2, 7, 2, 0));
        }
        Check.due("full", CageKernel.FULL, k.step(2, 7, 2, 0));
        Check.due("refused before full", REFUSED, k.step(2, 8, 0, 0));
        k.cage(0, 0, 1, -1, 255);
        k.start(0, 0, 2);
        Check.due("busy before full", CageKernel.BUSY, k.step(2, 7, 2, 0));
        k.kill(0);
        Check.due("it had ten", 10, k.wipe(2));
        Check.due("room again", 1, k.step(2, 7, 2, 0));
    }
}
