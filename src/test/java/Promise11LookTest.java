/** look: what the host sees of a cage. */
public final class Promise11LookTest {
    public static void main(String[] args) {
        CageKernel k = new CageKernel();
        k.node(0, 1, Check.DIRECTORY, 0);
        k.cage(0, 0, 256, -1, 255);
        k.cage(0, 0, 256, 0, 255);
        k.cage(0, 0, 256, 1, 255);
        all(k, 0, 0, 0, 0, 0, 0, 0, 0, -1);
        k.start(0, 255, -1);
        k.start(2, 255, -1);
        all(k, 0, 1, 0, 2, 0, 0, 0, 1, -1);
        all(k, 1, 0, 0, 1, 0, 0, 0, 0, 0);
        all(k, 2, 1, 0, 1, 0, 0, 0, 1, 1);
        k.sys(1, Check.FORK, 0, 0);
        k.sys(1, Check.FORK, 0, 0);
        k.sys(3, Check.EXIT, 0, 0);
        k.sys(1, Check.MAKE, 2, 0);
        k.sys(1, Check.MAKE, 3, 0);
        k.sys(0, Check.MAKE, 4, 0);
        k.sys(1, Check.MOUNT, 1, 2);
        k.sys(1, Check.SEND, 0, 1);
        k.sys(1, Check.SEND, 0, 1);
        k.sys(1, Check.SEND, 1, 1);
        all(k, 2, 1, 2, 3, 1, 2, 1, 3, 1);
        all(k, 1, 0, 2, 3, 0, 0, 0, 0, 0);
        all(k, 0, 1, 3, 4, 0, 0, 0, 1, -1);
        k.sys(1, Check.WAIT, 0, 0);
        k.sys(0, Check.REMOVE, 3, 0);
        all(k, 2, 1, 1, 2, 1, 2, 1, 3, 1);
        k.kill(1);
        all(k, 2, 0, 1, 0, 0, 0, 0, 3, 1);
        all(k, 0, 1, 2, 1, 0, 0, 0, 1, -1);
        k.start(2, 255, -1);
        all(k, 2, 1, 1, 1, 0, 0, 0, 1, 1);
        for (int what : new int[] {-1, 8, Check.LEAST, Check.MOST}) {
            Check.due("what " + what, CageKernel.REFUSED, k.look(0, what));
        }
        for (int c : new int[] {-1, 3, 4, Check.LEAST, Check.MOST}) {
            Check.due("cage " + c, CageKernel.REFUSED, k.look(c, 0));
        }
        Check.end();
    }

    private static void all(CageKernel k, int c, int... due) {
        for (int what = 0; what < due.length; what++) {
            Check.due("cage " + c + ", " + what, due[what], k.look(c, what));
        }
    }
}
