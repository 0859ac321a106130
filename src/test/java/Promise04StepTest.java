/** step: a further step of a FILTER. */
public final class Promise04StepTest {
    public static void main(String[] args) {
        ordinary();
        refusals();
        busy();
        Check.end();
    }

    private static void ordinary() {
        CageKernel k = new CageKernel();
        for (int n = 1; n <= 10; n++) {
            Check.due("step " + n, n, k.step(3, n % 8, n % 3, n % 10));
        }
        Check.due("full", CageKernel.FULL, k.step(3, 0, 0, 0));
        Check.due("refused before full", CageKernel.REFUSED, k.step(3, 8, 0, 0));
        Check.due("another filter", 1, k.step(0, 0, 0, 0));
        Check.due("still ten", 10, k.wipe(3));
    }

    private static void refusals() {
        CageKernel k = new CageKernel();
        for (int f : new int[] {-1, 4, Check.LEAST, Check.MOST}) {
            Check.due("filter " + f, CageKernel.REFUSED, k.step(f, 0, 0, 0));
        }
        for (int op : new int[] {-1, 8, Check.LEAST, Check.MOST}) {
            Check.due("op " + op, CageKernel.REFUSED, k.step(0, op, 0, 0));
        }
        for (int op = 4; op <= 6; op++) {
            for (int b : new int[] {-1, 10, Check.LEAST, Check.MOST}) {
                Check.due("op " + op + " b " + b, CageKernel.REFUSED, k.step(0, op, 0, b));
            }
        }
        for (int a : new int[] {-1, 3, Check.LEAST, Check.MOST}) {
            Check.due("give " + a, CageKernel.REFUSED, k.step(0, 7, a, 0));
        }
        int had = 0;
        for (int op = 0; op <= 3; op++) {
            Check.due("any a and b for op " + op, ++had, k.step(0, op, Check.LEAST, Check.MOST));
        }
        for (int op = 4; op <= 6; op++) {
            Check.due("any a for op " + op, ++had, k.step(0, op, Check.LEAST, op + 3));
        }
        Check.due("any b for give", ++had, k.step(0, 7, 2, Check.LEAST));
        Check.due("a zero b", ++had, k.step(0, 4, 0, 0));
    }

    private static void busy() {
        CageKernel k = new CageKernel();
        Check.giveAlways(k, 1, 2);
        k.cage(0, 0, 9, -1, 255);
        Check.due("start", 0, k.start(0, 255, 1));
        Check.due("busy", CageKernel.BUSY, k.step(1, 0, 0, 0));
        Check.due("refused before busy", CageKernel.REFUSED, k.step(1, 7, 3, 0));
        Check.due("others are not busy", 1, k.step(0, 0, 0, 0));
        k.sys(0, Check.FORK, 0, 0);
        for (int n = 2; n <= 10; n++) {
            k.step(0, 7, 2, 0);
        }
        k.sys(1, Check.FILTER, 0, 0);
        Check.due("busy before full", CageKernel.BUSY, k.step(0, 0, 0, 0));
        k.sys(1, Check.EXIT, 0, 0);
        Check.due("a zombie has it still", CageKernel.BUSY, k.step(0, 0, 0, 0));
        k.sys(0, Check.WAIT, 0, 0);
        Check.due("nobody has it", CageKernel.FULL, k.step(0, 0, 0, 0));
        k.kill(0);
        Check.due("not busy any more", 2, k.step(1, 0, 0, 0));
    }
}
