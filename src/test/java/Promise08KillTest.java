/** kill: the host ends a PROCESS with 137. */
public final class Promise08KillTest {
    public static void main(String[] args) {
        CageKernel k = Check.oneCage(255);
        k.sys(0, Check.FORK, 0, 0);
        k.sys(1, Check.FORK, 0, 0);
        for (int p : new int[] {3, 15, 16, -1, Check.LEAST, Check.MOST}) {
            Check.due("none", false, k.kill(p));
        }
        Check.due("kill", true, k.kill(1));
        Check.due("a zombie", 2, k.process(1, 0));
        Check.due("with 137", 137, k.process(1, 10));
        Check.due("its child has init", 0, k.process(2, 4));
        Check.due("a zombie is not live", false, k.kill(1));
        Check.due("no system call was made", 2, k.count(4));
        Check.due("none was stopped", 0, k.count(5));
        k.sys(2, Check.EXIT, 4, 0);
        Check.due("wait", 2 * 256 + 137, k.sys(0, Check.WAIT, 0, 0));
        Check.due("gone is not live", false, k.kill(1));
        k.sys(0, Check.FORK, 0, 0);
        Check.due("kill init", true, k.kill(0));
        Check.due("nobody is left", 0, k.count(2) + k.count(3));
        Check.due("not started", 0, k.look(0, 0));
        Check.due("gone", false, k.kill(0));
        Check.end();
    }
}
