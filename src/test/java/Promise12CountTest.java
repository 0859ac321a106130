/** count: what the host sees of the whole. */
public final class Promise12CountTest {
    public static void main(String[] args) {
        CageKernel k = new CageKernel();
        all(k, 1, 0, 0, 0, 0, 0);
        k.node(0, 1, Check.DIRECTORY, 0);
        Check.giveAlways(k, 0, 1);
        Check.giveAlways(k, 1, 0);
        k.cage(0, 0, 9, -1, 255);
        k.cage(0, 0, 9, -1, 255);
        all(k, 2, 2, 0, 0, 0, 0);
        k.start(0, 255, -1);
        k.start(1, 255, 0);
        all(k, 2, 2, 2, 0, 0, 0);
        k.sys(0, Check.FORK, 0, 0);
        k.sys(0, Check.FORK, 0, 0);
        all(k, 2, 2, 4, 0, 2, 0);
        k.sys(1, Check.NUMBER, 0, 0);
        all(k, 2, 2, 4, 0, 3, 1);
        k.sys(2, Check.FILTER, 1, 0);
        k.sys(2, Check.NUMBER, 0, 0);
        all(k, 2, 2, 3, 1, 5, 2);
        k.sys(2, Check.NUMBER, 0, 0);
        k.sys(9, Check.NUMBER, 0, 0);
        all(k, 2, 2, 3, 1, 5, 2);
        k.kill(3);
        all(k, 2, 2, 2, 2, 5, 2);
        k.sys(0, Check.READ, 9, 0);
        k.sys(0, 77, 9, 0);
        k.sys(0, Check.MAKE, 2, 0);
        k.sys(0, Check.WAIT, 0, 0);
        all(k, 3, 2, 2, 1, 9, 2);
        k.sys(0, Check.REMOVE, 2, 0);
        k.sys(0, Check.EXIT, 0, 0);
        all(k, 2, 2, 1, 0, 11, 2);
        for (int what : new int[] {-1, 6, Check.LEAST, Check.MOST}) {
            Check.due("what " + what, CageKernel.REFUSED, k.count(what));
        }
        Check.end();
    }

    private static void all(CageKernel k, int... due) {
        for (int what = 0; what < due.length; what++) {
            Check.due("count " + what, due[what], k.count(what));
        }
    }
}
