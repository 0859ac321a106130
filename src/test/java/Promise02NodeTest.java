/** node: the host makes a NODE in a DIRECTORY. */
public final class Promise02NodeTest {
    public static void main(String[] args) {
        ordinary();
        refusals();
        order();
        full();
        leastFreeNumber();
        noCageUsesIt();
        Check.end();
    }

    private static void ordinary() {
        CageKernel k = new CageKernel();
        Check.due("directory", 1, k.node(0, 14, Check.DIRECTORY, 255));
        Check.due("file in it", 2, k.node(1, 1, Check.FILE, 0));
        Check.due("same name elsewhere", 3, k.node(0, 1, Check.FILE, 7));
        int[] first = {0, 14, 0, 255, 1, -1};
        int[] second = {1, 1, 1, 0, 0, -1};
        for (int what = 0; what < 6; what++) {
            Check.due("node 1, " + what, first[what], k.file(1, what));
            Check.due("node 2, " + what, second[what], k.file(2, what));
        }
        Check.due("count", 4, k.count(0));
    }

    private static void refusals() {
        CageKernel k = new CageKernel();
        Check.due("a file", 1, k.node(0, 1, Check.FILE, 0));
        int[] noDirectory = {-1, 1, 2, 31, 32, Check.LEAST, Check.MOST};
        for (int in : noDirectory) {
            Check.due("in " + in, CageKernel.REFUSED, k.node(in, 2, 0, 0));
        }
        int[] noName = {0, -1, 15, 16, Check.LEAST, Check.MOST};
        for (int name : noName) {
            Check.due("name " + name, CageKernel.REFUSED, k.node(0, name, 0, 0));
        }
        int[] noKind = {-1, 2, Check.LEAST, Check.MOST};
        for (int kind : noKind) {
            Check.due("kind " + kind, CageKernel.REFUSED, k.node(0, 2, kind, 0));
        }
        int[] noOwner = {-1, 256, Check.LEAST, Check.MOST};
        for (int owner : noOwner) {
            Check.due("owner " + owner, CageKernel.REFUSED, k.node(0, 2, 0, owner));
        }
        Check.due("nothing was made", 2, k.count(0));
    }

    private static void order() {
        CageKernel k = new CageKernel();
        k.node(0, 1, Check.FILE, 0);
        Check.due("exists", CageKernel.EXISTS, k.node(0, 1, 0, 0));
        Check.due("refused before exists (kind)", CageKernel.REFUSED, k.node(0, 1, 2, 0));
        Check.due("refused before exists (owner)", CageKernel.REFUSED, k.node(0, 1, 0, 256));
    }

    private static void full() {
        CageKernel k = new CageKernel();
        int in = 0;
        for (int n = 1; n < 32; n++) {
            Check.due("node " + n, n, k.node(in, 1 + n % 14, n % 14 == 0 ? 0 : 1, 0));
            in = n % 14 == 0 ? n : in;
        }
        Check.due("full", CageKernel.FULL, k.node(28, 14, 0, 0));
        Check.due("exists before full", CageKernel.EXISTS, k.node(0, 2, 0, 0));
        Check.due("refused before full", CageKernel.REFUSED, k.node(0, 0, 0, 0));
        Check.due("count", 32, k.count(0));
    }

    private static void leastFreeNumber() {
        CageKernel k = Check.oneCage(255);
        for (int name = 1; name <= 4; name++) {
            k.node(0, name, Check.FILE, 0);
        }
        k.sys(0, Check.WRITE, 2, 99);
        k.sys(0, Check.REMOVE, 3, 0);
        k.sys(0, Check.REMOVE, 2, 0);
        Check.due("gone", CageKernel.REFUSED, k.file(2, 0));
        Check.due("the least free", 2, k.node(0, 9, Check.FILE, 5));
        Check.due("its int is new", 0, k.file(2, 4));
        Check.due("the next", 3, k.node(0, 2, Check.DIRECTORY, 5));
        Check.due("the last", 5, k.node(0, 3, Check.DIRECTORY, 5));
    }

    private static void noCageUsesIt() {
        CageKernel k = new CageKernel();
        k.cage(0, 0, 256, -1, 0);
        Check.due("no limit binds the host", 1, k.node(0, 1, 0, 0));
        Check.due("not used", 0, k.look(0, 1));
        Check.due("made by the host", -1, k.file(1, 5));
    }
}
