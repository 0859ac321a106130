/** wipe: a FILTER has no steps. A method for each of the document's sentences. */
public final class Promise05WipeTest {
    public static void main(String[] args) {
        howManyItHad();
        nothingToWipe();
        refused();
        busy();
        Check.end();
    }

    private static void howManyItHad() {
        Check.sentence(5, "FILTER f has no steps: how many it had.");
        CageKernel k = new CageKernel();
        k.cage(0, 0, 9, -1, 255);
        for (int had = 1; had <= 10; had++) {
            for (int n = 1; n <= had; n++) {
                Check.due("step", n, k.step(2, 7, 2, 0));
            }
            Check.due("had", had, k.wipe(2));
        }
        Check.due("an empty one is not good", CageKernel.REFUSED, k.start(0, 255, 2));
        k.step(1, 7, 2, 0);
        k.step(2, 7, 2, 0);
        k.wipe(2);
        Check.due("the others stay", 1, k.wipe(1));
    }

    private static void nothingToWipe() {
        Check.sentence(5, "how many it had: an empty one");
        CageKernel k = new CageKernel();
        for (int f = 0; f <= 3; f++) {
            Check.due("at first", 0, k.wipe(f));
            Check.due("again", 0, k.wipe(f));
        }
    }

    private static void refused() {
        Check.sentence(5, "REFUSED");
        CageKernel k = new CageKernel();
        for (int f = 0; f <= 3; f++) {
            k.step(f, 7, 2, 0);
        }
        Check.outside("filter", 0, 3, CageKernel.REFUSED, f -> k.wipe(f));
        for (int f = 0; f <= 3; f++) {
            Check.due("none was wiped", 1, k.wipe(f));
        }
    }

    private static void busy() {
        Check.sentence(5, "BUSY likewise");
        CageKernel k = Check.oneCage(255);
        Check.giveAlways(k, 3, 2);
        Check.giveAlways(k, 2, 2);
        k.sys(0, Check.FORK, 0, 0);
        k.sys(1, Check.FILTER, 3, 0);
        Check.due("busy", CageKernel.BUSY, k.wipe(3));
        Check.due("nobody has this one", 1, k.wipe(2));
        k.kill(1);
        Check.due("a zombie has it still", CageKernel.BUSY, k.wipe(3));
        Check.giveAlways(k, 2, 2);
        k.sys(0, Check.FILTER, 2, 0);
        k.sys(0, Check.WAIT, 0, 0);
        Check.due("gone with the zombie", 1, k.wipe(3));
        Check.due("init has this one", CageKernel.BUSY, k.wipe(2));
        k.kill(0);
        Check.due("gone with the cage", 1, k.wipe(2));
    }
}
