/** process: what the host sees of a PROCESS. A method for each of the document's sentences. */
public final class Promise09ProcessTest {
    private static final int REFUSED = CageKernel.REFUSED;

    public static void main(String[] args) {
        liveZombieAndGone();
        parents();
        codes();
        noProcess();
        otherWhats();
        Check.end();
    }

    private static void all(CageKernel k, int p, int... due) {
        Check.row("process " + p, what -> k.process(p, what), due);
    }

    private static void liveZombieAndGone() {
        Check.sentence(9, "Of PROCESS p what 0: 1 LIVE, 2 a ZOMBIE; 1: its cage; 2: its number in it; 3: its user; ..");
        CageKernel k = new CageKernel();
        Check.giveAlways(k, 0, 2);
        k.cage(0, 0, 9, -1, 255);
        k.cage(0, 10, 9, -1, 255);
        k.start(0, 255, -1);
        k.start(1, 0x1f, 0);
        k.sys(1, Check.FORK, 0, 0);
        k.sys(2, Check.POWERS, 2, 0x16);
        k.sys(2, Check.POWERS, 3, 0x07);
        k.sys(2, Check.USER, 8, 0);
        k.sys(2, Check.POWERS, 0, 0x02);
        k.sys(2, Check.FILTER, 0, 0);
        all(k, 2, 1, 1, 2, 8, 1, 0x02, 0x16, 0x16, 0x07, 2, 0);
        k.sys(2, Check.EXIT, 77, 0);
        all(k, 2, 2, 1, 2, 8, 1, 0x02, 0x16, 0x16, 0x07, 2, 77);
        all(k, 1, 1, 1, 1, 0, -1, 0x1f, 0x1f, 0, 0x1f, 1, 0);
        k.sys(1, Check.WAIT, 0, 0);
        for (int what = 0; what <= 10; what++) {
            Check.due("gone, " + what, REFUSED, k.process(2, what));
        }
        k.sys(0, Check.FORK, 0, 0);
        all(k, 2, 1, 0, 2, 0, 0, 255, 255, 0, 255, 0, 0);
    }

    private static void parents() {
        Check.sentence(9, "4: its PARENT, -1 if none");
        CageKernel k = Check.oneCage(255);
        k.cage(0, 0, 9, 0, 255);
        k.sys(0, Check.FORK, 0, 0);
        k.sys(1, Check.FORK, 0, 0);
        k.start(1, 255, -1);
        Check.due("init", -1, k.process(0, 4));
        Check.due("process 0 is a parent like others", 0, k.process(1, 4));
        Check.due("a child's child", 1, k.process(2, 4));
        Check.due("init of a cage in it", -1, k.process(3, 4));
    }

    private static void codes() {
        Check.sentence(9, "10: the code of a ZOMBIE, else 0");
        CageKernel k = Check.oneCage(255);
        k.sys(0, Check.FORK, 0, 0);
        k.sys(0, Check.FORK, 0, 0);
        k.sys(1, Check.EXIT, 255, 0);
        k.sys(2, Check.EXIT, 0, 0);
        Check.due("live", 0, k.process(0, 10));
        Check.due("the highest", 255, k.process(1, 10));
        Check.due("the least", 0, k.process(2, 10));
        k.sys(0, Check.WAIT, 0, 0);
        k.sys(0, Check.FORK, 0, 0);
        Check.due("live, with a number that a zombie had", 0, k.process(1, 10));
    }

    private static void noProcess() {
        Check.sentence(9, "REFUSED if there is none");
        CageKernel k = Check.oneCage(255);
        for (int what = 0; what <= 10; what++) {
            int asked = what;
            Check.outside("what " + what + ", process", 0, 15, REFUSED, p -> k.process(p, asked));
            Check.each("what " + what + ", process", REFUSED, p -> k.process(p, asked), 1, 15);
        }
        k.cage(0, 0, 1, -1, 255);
        k.start(1, 0, -1);
        Check.fillProcesses(k, 0);
        Check.due("the last one", 1, k.process(15, 0));
    }

    private static void otherWhats() {
        Check.sentence(9, "REFUSED .. for others");
        CageKernel k = Check.oneCage(255);
        k.sys(0, Check.FORK, 0, 0);
        k.kill(1);
        Check.outside("live, what", 0, 10, REFUSED, what -> k.process(0, what));
        Check.outside("zombie, what", 0, 10, REFUSED, what -> k.process(1, what));
    }
}
