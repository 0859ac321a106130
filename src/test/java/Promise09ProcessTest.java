/** process: what the host sees of a PROCESS. */
public final class Promise09ProcessTest {
    public static void main(String[] args) {
        CageKernel k = new CageKernel();
        Check.giveAlways(k, 0, 2);
        k.cage(0, 0, 9, -1, 255);
        k.cage(0, 10, 9, -1, 255);
        k.start(0, 255, -1);
        k.start(1, 0x1f, 0);
        k.sys(1, Check.FORK, 0, 0);
        k.sys(2, Check.POWERS, 2, 0x16);
        k.sys(2, Check.POWERS, 3, 0x07);
        k.sys(2, Check.USER, 8, 0);
        k.sys(2, Check.POWERS, 0, 0x02);
        k.sys(2, Check.FILTER, 0, 0);
        int[] live = {1, 1, 2, 8, 1, 0x02, 0x16, 0x16, 0x07, 2, 0};
        all(k, 2, live);
        k.sys(2, Check.EXIT, 77, 0);
        int[] zombie = {2, 1, 2, 8, 1, 0x02, 0x16, 0x16, 0x07, 2, 77};
        all(k, 2, zombie);
        int[] init = {1, 1, 1, 0, -1, 0x1f, 0x1f, 0, 0x1f, 1, 0};
        all(k, 1, init);
        for (int what : new int[] {-1, 11, Check.LEAST, Check.MOST}) {
            Check.due("what " + what, CageKernel.REFUSED, k.process(1, what));
        }
        for (int p : new int[] {-1, 3, 15, 16, Check.LEAST, Check.MOST}) {
            Check.due("process " + p, CageKernel.REFUSED, k.process(p, 0));
        }
        k.sys(1, Check.WAIT, 0, 0);
        for (int what = 0; what <= 10; what++) {
            Check.due("gone, " + what, CageKernel.REFUSED, k.process(2, what));
        }
        k.sys(0, Check.FORK, 0, 0);
        int[] again = {1, 0, 2, 0, 0, 255, 255, 0, 255, 0, 0};
        all(k, 2, again);
        Check.end();
    }

    private static void all(CageKernel k, int p, int[] due) {
        for (int what = 0; what < due.length; what++) {
            Check.due("process " + p + ", " + what, due[what], k.process(p, what));
        }
    }
}
