/** A new object: NODE 0 alone, no cages, no PROCESSES, empty FILTERS. */
public final class Promise01NewObjectTest {
    public static void main(String[] args) {
        isNew(new CageKernel());
        objectsAreApart();
        Check.end();
    }

    private static void isNew(CageKernel k) {
        int[] counts = {1, 0, 0, 0, 0, 0};
        for (int what = 0; what < counts.length; what++) {
            Check.due("count " + what, counts[what], k.count(what));
        }
        int[] root = {0, 0, -1, 0, 0, -1};
        for (int what = 0; what < root.length; what++) {
            Check.due("node 0, " + what, root[what], k.file(0, what));
        }
        for (int n = 1; n < 32; n++) {
            Check.due("no node " + n, CageKernel.REFUSED, k.file(n, 0));
        }
        for (int c = 0; c < 4; c++) {
            Check.due("no cage " + c, CageKernel.REFUSED, k.look(c, 0));
        }
        for (int p = 0; p < 16; p++) {
            Check.due("no process " + p, CageKernel.REFUSED, k.process(p, 0));
        }
        for (int f = 0; f < 4; f++) {
            Check.due("filter " + f + " is empty", 0, k.wipe(f));
        }
    }

    private static void objectsAreApart() {
        CageKernel used = Check.oneCage(255);
        used.node(0, 1, Check.DIRECTORY, 0);
        used.step(0, 7, 0, 0);
        used.sys(0, Check.NUMBER, 0, 0);
        isNew(new CageKernel());
    }
}
