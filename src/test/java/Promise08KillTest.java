/** kill: the host ends a PROCESS with 137. A method for each of the document's sentences. */
public final class Promise08KillTest {
    public static void main(String[] args) {
        endsWith137();
        notLive();
        killsInit();
        isNoSystemCall();
        Check.end();
    }

    private static void endsWith137() {
        Check.sentence(8, "The host ends PROCESS p with 137: true");
        CageKernel k = Check.oneCage(255);
        k.sys(0, Check.FORK, 0, 0);
        k.sys(1, Check.FORK, 0, 0);
        Check.due("kill", true, k.kill(1));
        Check.due("a zombie", 2, k.process(1, 0));
        Check.due("with 137", 137, k.process(1, 10));
        Check.due("its child has init", 0, k.process(2, 4));
        Check.due("wait", 2 * 256 + 137, k.sys(0, Check.WAIT, 0, 0));
    }

    private static void notLive() {
        Check.sentence(8, "false if it is not LIVE");
        CageKernel k = Check.oneCage(255);
        k.sys(0, Check.FORK, 0, 0);
        k.sys(0, Check.FORK, 0, 0);
        k.sys(1, Check.EXIT, 4, 0);
        k.kill(2);
        String before = Check.seen(k);
        Check.outside("process", 0, 15, 0, p -> k.kill(p) ? 1 : 0);
        Check.each("never there", 0, p -> k.kill(p) ? 1 : 0, 3, 15);
        Check.each("a zombie", 0, p -> k.kill(p) ? 1 : 0, 1, 2);
        Check.unchanged(before, k);
        k.sys(0, Check.WAIT, 0, 0);
        Check.due("not there any more", false, k.kill(1));
    }

    private static void killsInit() {
        Check.sentence(8, "The host ends PROCESS p with 137: INIT");
        CageKernel k = Check.oneCage(255);
        k.sys(0, Check.FORK, 0, 0);
        Check.due("kill init", true, k.kill(0));
        Check.due("nobody is left", 0, k.count(2) + k.count(3));
        Check.due("not started", 0, k.look(0, 0));
        Check.due("gone", false, k.kill(0));
    }

    private static void isNoSystemCall() {
        Check.sentence(8, "The host ends PROCESS p: no FILTER is run and no system call is made");
        CageKernel k = new CageKernel();
        Check.giveAlways(k, 0, 1);
        k.cage(0, 0, 1, -1, 255);
        k.start(0, 0, 0);
        Check.due("kill", true, k.kill(0));
        Check.due("no system call was made", 0, k.count(4));
        Check.due("none was stopped", 0, k.count(5));
    }
}
