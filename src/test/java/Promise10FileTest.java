/** file: what the host sees of a NODE. */
public final class Promise10FileTest {
    public static void main(String[] args) {
        CageKernel k = new CageKernel();
        k.node(0, 3, Check.DIRECTORY, 20);
        k.node(1, 4, Check.DIRECTORY, 21);
        k.cage(0, 0, 256, -1, 255);
        k.cage(1, 20, 4, -1, 255);
        k.start(0, 255, -1);
        k.start(1, 255, -1);
        k.sys(1, Check.MAKE, 5, Check.FILE);
        k.sys(1, Check.MAKE, Check.path(4, 6), Check.FILE);
        k.sys(0, Check.MAKE, 7, Check.DIRECTORY);
        k.sys(0, Check.WRITE, Check.path(3, 5), -44);
        k.sys(1, Check.GIVE, 5, 3);
        int[][] due = {
            {0, 0, -1, 0, 2, -1},
            {0, 3, 0, 20, 2, -1},
            {0, 4, 1, 21, 1, -1},
            {1, 5, 1, 23, -44, 1},
            {1, 6, 2, 20, 0, 1},
            {0, 7, 0, 0, 0, 0},
        };
        for (int n = 0; n < due.length; n++) {
            for (int what = 0; what < 6; what++) {
                Check.due("node " + n + ", " + what, due[n][what], k.file(n, what));
            }
            for (int what : new int[] {-1, 6, Check.LEAST, Check.MOST}) {
                Check.due("what " + what, CageKernel.REFUSED, k.file(n, what));
            }
        }
        for (int n : new int[] {-1, 6, 31, 32, Check.LEAST, Check.MOST}) {
            Check.due("node " + n, CageKernel.REFUSED, k.file(n, 0));
        }
        k.sys(0, Check.REMOVE, 7, 0);
        for (int what = 0; what < 6; what++) {
            Check.due("gone, " + what, CageKernel.REFUSED, k.file(5, what));
        }
        Check.due("one less in the root", 1, k.file(0, 4));
        k.kill(1);
        Check.due("its maker stays when the cage ends", 1, k.file(3, 5));
        Check.due("the number anew", 5, k.node(0, 9, Check.FILE, 0));
        Check.due("made by the host", -1, k.file(5, 5));
        Check.end();
    }
}
