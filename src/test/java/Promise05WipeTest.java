/** wipe: a FILTER has no steps. */
public final class Promise05WipeTest {
    public static void main(String[] args) {
        CageKernel k = new CageKernel();
        k.step(2, 0, 0, 0);
        k.step(2, 7, 2, 0);
        Check.due("had two", 2, k.wipe(2));
        Check.due("has none", 0, k.wipe(2));
        for (int f : new int[] {-1, 4, Check.LEAST, Check.MOST}) {
            Check.due("filter " + f, CageKernel.REFUSED, k.wipe(f));
        }
        k.cage(0, 0, 9, -1, 255);
        Check.due("an empty one is not good", CageKernel.REFUSED, k.start(0, 255, 2));
        Check.giveAlways(k, 2, 2);
        Check.giveAlways(k, 3, 2);
        k.start(0, 255, 2);
        Check.due("busy", CageKernel.BUSY, k.wipe(2));
        Check.due("nobody has this one", 1, k.wipe(3));
        k.sys(0, Check.FORK, 0, 0);
        Check.giveAlways(k, 3, 2);
        k.sys(1, Check.FILTER, 3, 0);
        k.kill(1);
        Check.due("a zombie has it still", CageKernel.BUSY, k.wipe(3));
        k.sys(0, Check.WAIT, 0, 0);
        Check.due("gone with the zombie", 1, k.wipe(3));
        k.kill(0);
        Check.due("gone with the cage", 1, k.wipe(2));
        Check.end();
    }
}
