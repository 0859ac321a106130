/**
 * PATHS, and the MOUNT by which one came; a method for each of the document's sentences. Each NODE's OWNER is its own
 * number, so that LOOK tells where a PATH leads.
 */
public final class Promise13PathsTest {
    private static final int UP = Check.UP, MISSING = CageKernel.MISSING;

    public static void main(String[] args) {
        names();
        noSuchThing();
        noNames();
        upToTheFirstZero();
        upToTheSeventh();
        otherBits();
        upToTheDirectory();
        rootOfTheCage();
        pointOfAMount();
        upFromWhatAMountShows();
        aMountStaysOnTheWay();
        unmountOnTheWay();
        upFromAMountOnAMount();
        upFromThePointAsItWasComeTo();
        fourMountsDeep();
        chainsInOneStep();
        eachMountOnceInOneStep();
        twoMountsOfOnePoint();
        theRootShown();
        calls();
        Check.end();
    }

    /**
     * The tree:  0 ( 1 ( 3 ( 5 ( 7 ) ) ) , 2 ( 4 ( 6 ( 8 file ) ) ) ), every NODE's NAME is its number.
     */
    private static CageKernel withTree(int root) {
        CageKernel k = new CageKernel();
        int[] in = {0, 0, 0, 1, 2, 3, 4, 5, 6};
        for (int n = 1; n < in.length; n++) {
            Check.due("node", n, k.node(in[n], n, n == 8 ? Check.FILE : Check.DIRECTORY, n));
        }
        k.cage(root, 0, 256, -1, 255);
        k.start(0, 255, -1);
        return k;
    }

    private static void leads(CageKernel k, String what, int want, int... names) {
        Check.due(what, want, k.sys(0, Check.LOOK, Check.path(names), 0));
    }

    private static void mount(CageKernel k, int point, int shown) {
        Check.due("mount", 0, k.sys(0, Check.MOUNT, point, shown));
    }

    private static void names() {
        Check.sentence(13, "a NAME: what is in the DIRECTORY with it");
        CageKernel k = withTree(0);
        leads(k, "one name", 1, 1);
        leads(k, "four names", 7, 1, 3, 5, 7);
        leads(k, "a file", 256 + 8, 2, 4, 6, 8);
        leads(k, "up and down", 4, 1, UP, 2, 4);
    }

    private static void noSuchThing() {
        Check.sentence(13, "MISSING if there is no such thing (a NAME in a FILE, too ..)");
        CageKernel k = withTree(0);
        leads(k, "a name that is not there", MISSING, 3);
        leads(k, "a name that is elsewhere", MISSING, 1, 4);
        leads(k, "in an empty directory", MISSING, 1, 3, 5, 7, 7);
        leads(k, "no way on from nothing", MISSING, 3, UP);
        leads(k, "a name in a file", MISSING, 2, 4, 6, 8, 8);
        leads(k, "no way on from a name in a file", MISSING, 2, 4, 6, 8, 8, UP);
        for (int name = 1; name <= 14; name++) {
            leads(k, "name " + name, name <= 2 ? name : MISSING, name);
        }
    }

    private static void noNames() {
        Check.sentence(13, "Following one from the cage's ROOT: no NAMES");
        leads(withTree(0), "the root of all", 0);
        leads(withTree(3), "another root", 3);
    }

    private static void upToTheFirstZero() {
        Check.sentence(13, "up to the first 0");
        CageKernel k = withTree(0);
        leads(k, "names behind a 0 are none", 1, 1, 0, 9, 9);
        leads(k, "a 0 at first", 0, 0, 9, UP, 9, 9, 9, 9);
        leads(k, "a 0 before the seventh", 5, 1, UP, 1, 3, 5, 0, 9);
    }

    private static void upToTheSeventh() {
        Check.sentence(13, "or the seventh");
        CageKernel k = withTree(0);
        leads(k, "the seventh is a name", 7, 1, UP, UP, 1, 3, 5, 7);
        leads(k, "the seventh is missing", MISSING, 1, UP, UP, 1, 3, 5, 9);
        leads(k, "the seventh is up", 5, 1, 3, 5, 7, UP, 7, UP);
        leads(k, "six alone", 5, 1, UP, UP, 1, 3, 5);
        leads(k, "seven ups", 0, UP, UP, UP, UP, UP, UP, UP);
    }

    private static void otherBits() {
        Check.sentence(13, "MISSING .. or a PATH with other bits than its 28");
        CageKernel k = withTree(0);
        for (int bit = 28; bit < 32; bit++) {
            Check.due("bit " + bit, MISSING, k.sys(0, Check.LOOK, 1 | 1 << bit, 0));
            Check.due("bit " + bit + " alone", MISSING, k.sys(0, Check.LOOK, 1 << bit, 0));
            Check.due("bit " + bit + " with up", MISSING, k.sys(0, Check.LOOK, Check.UP | 1 << bit, 0));
        }
        Check.due("all bits", MISSING, k.sys(0, Check.LOOK, -1, 0));
        Check.due("the highest path", 0, k.sys(0, Check.LOOK, (1 << 28) - 1, 0));
        Check.due("one above it", MISSING, k.sys(0, Check.LOOK, 1 << 28, 0));
    }

    private static void upToTheDirectory() {
        Check.sentence(13, "UP: .. else the DIRECTORY in which it is");
        CageKernel k = withTree(0);
        leads(k, "from a directory", 1, 1, 3, UP);
        leads(k, "twice", 0, 1, 3, UP, UP);
        leads(k, "from a file", 6, 2, 4, 6, 8, UP);
    }

    private static void rootOfTheCage() {
        Check.sentence(13, "UP: from the ROOT, come to by no MOUNT, to itself");
        CageKernel k = withTree(3);
        leads(k, "its root", 3);
        leads(k, "below it", 7, 5, 7);
        leads(k, "not above it", 3, UP);
        leads(k, "not above it from below", 3, 5, UP, UP, UP);
        leads(k, "names above are missing", MISSING, 1);
    }

    private static void pointOfAMount() {
        Check.sentence(13, "if that NODE is the POINT of a MOUNT of the cage, what the latest such one SHOWS");
        CageKernel k = withTree(0);
        mount(k, Check.path(1, 3), 2);
        leads(k, "shown", 2, 1, 3);
        leads(k, "below", 6, 1, 3, 4, 6);
        leads(k, "what the point had is hidden", MISSING, 1, 3, 5);
        leads(k, "no point", 4, 2, 4);
        Check.due("unmount", 0, k.sys(0, Check.UNMOUNT, Check.path(1, 3), 0));
        leads(k, "what the point had is there again", 5, 1, 3, 5);
    }

    private static void upFromWhatAMountShows() {
        Check.sentence(13, "from what a MOUNT shows, by which one came there: what is UP from its POINT");
        CageKernel k = withTree(0);
        mount(k, Check.path(1, 3), 2);
        leads(k, "up", 1, 1, 3, UP);
        leads(k, "on to the root", 0, 1, 3, UP, UP);
        leads(k, "what it shows, come to by no mount", 0, 2, UP);
        leads(k, "back to that from below", 0, 2, 4, UP, UP);
    }

    private static void aMountStaysOnTheWay() {
        Check.sentence(13, "the MOUNT by which one came stays with one on the way below what it shows: UP from there "
                + "back to what it shows counts as come to by that MOUNT");
        CageKernel k = withTree(0);
        mount(k, Check.path(1, 3), 2);
        leads(k, "back to what it shows", 2, 1, 3, 4, UP);
        leads(k, "down again", 4, 1, 3, 4, UP, 4);
        leads(k, "a further up goes on from its point", 1, 1, 3, 4, UP, UP);
        leads(k, "from deeper", 1, 1, 3, 4, 6, UP, UP, UP);
        leads(k, "on to the root", 0, 1, 3, 4, UP, UP, UP);
    }

    private static void unmountOnTheWay() {
        Check.sentence(13, "(so .. UNMOUNT takes it)");
        CageKernel k = withTree(0);
        mount(k, Check.path(1, 3), 2);
        Check.due("below it is not taken", CageKernel.NONE, k.sys(0, Check.UNMOUNT, Check.path(1, 3, 4), 0));
        Check.due("nor above", CageKernel.NONE, k.sys(0, Check.UNMOUNT, Check.path(1, 3, 4, UP, UP), 0));
        Check.due("one is there", 1, k.look(0, 3));
        Check.due("back at what it shows it is", 0, k.sys(0, Check.UNMOUNT, Check.path(1, 3, 4, UP), 0));
        Check.due("it is gone", 0, k.look(0, 3));
    }

    private static void upFromAMountOnAMount() {
        Check.sentence(13, "from what a MOUNT shows, by which one came there: what is UP from its POINT");
        CageKernel k = withTree(0);
        mount(k, Check.path(1, 3), Check.path(2, 4));
        mount(k, Check.path(1, 3), 2);
        leads(k, "the latest", 2, 1, 3);
        leads(k, "up, over both points", 1, 1, 3, UP);
        leads(k, "up again", 0, 1, 3, UP, UP);
        leads(k, "node 4 is a point now, by every way", 2, 2, 4);
        leads(k, "up goes by the way of the making", 1, 2, 4, UP);
        Check.due("taken by the other way", 0, k.sys(0, Check.UNMOUNT, Check.path(2, 4), 0));
        leads(k, "the earlier one", 4, 1, 3);
        leads(k, "node 4 again", 4, 2, 4);
        leads(k, "with its own way up", 2, 2, 4, UP);
    }

    private static void upFromThePointAsItWasComeTo() {
        Check.sentence(13, "what is UP from its POINT, as that was come to when it was made");
        CageKernel k = withTree(0);
        mount(k, Check.path(1, 3), 2);
        mount(k, Check.path(1, 3, 4), Check.path(1));
        leads(k, "the inner one", 1, 1, 3, 4);
        leads(k, "up to what the outer one shows", 2, 1, 3, 4, UP);
        leads(k, "then up from the outer point", 1, 1, 3, 4, UP, UP);
        leads(k, "by the plain way the point is the same", 2, 2, 4, UP);
        leads(k, "and goes on as it was come to", 1, 2, 4, UP, UP);
        Check.due("busy", CageKernel.BUSY, k.sys(0, Check.UNMOUNT, Check.path(2, 4, UP), 0));
        Check.due("inner", 0, k.sys(0, Check.UNMOUNT, Check.path(2, 4), 0));
        Check.due("outer", 0, k.sys(0, Check.UNMOUNT, Check.path(1, 3), 0));
    }

    private static void fourMountsDeep() {
        Check.sentence(13, "what is UP from its POINT, as that was come to when it was made: through all 4 MOUNTS");
        CageKernel k = withTree(0);
        mount(k, Check.path(1, 3), 2);
        mount(k, Check.path(1, 3), Check.path(2, 4, 6));
        k.sys(0, Check.UNMOUNT, Check.path(1, 3), 0);
        mount(k, Check.path(1, 3), Check.path(1, 3, 4));
        mount(k, Check.path(1, 3), Check.path(1, 3, 6));
        mount(k, Check.path(1, 3), 1);
        leads(k, "the fourth", 1, 1, 3);
        leads(k, "up, over all four points", 1, 1, 3, UP);
        leads(k, "up again", 0, 1, 3, UP, UP);
        Check.due("three are busy, the fourth is not", 0, k.sys(0, Check.UNMOUNT, Check.path(1, 3), 0));
        leads(k, "the third", 6, 1, 3);
        leads(k, "up, over three points", 1, 1, 3, UP);
    }

    private static void chainsInOneStep() {
        Check.sentence(13, "what the latest such one SHOWS, and so on as often as that is so");
        CageKernel k = withTree(0);
        mount(k, Check.path(2, 4), Check.path(1, 3, 5));
        mount(k, 1, Check.path(2));
        mount(k, Check.path(2), Check.path(2, 4));
        leads(k, "2 shows 5", 5, 2);
        leads(k, "1 shows 2, that shows 5", 5, 1);
        leads(k, "up is up from the point 2", 0, 1, UP);
        leads(k, "below", 7, 1, 7);
        leads(k, "and up again", 0, 1, 7, UP, UP);
        Check.due("the last of the chain is taken", 0, k.sys(0, Check.UNMOUNT, 1, 0));
        leads(k, "then 1 shows 2", 2, 1);
        leads(k, "and 4 in it shows 5", 5, 1, 4);
        leads(k, "whose way up is plain", 2, 1, 4, UP);
        leads(k, "to the root", 0, 1, 4, UP, UP);
    }

    private static void eachMountOnceInOneStep() {
        Check.sentence(13, "(each MOUNT once in one step)");
        CageKernel k = withTree(0);
        mount(k, 1, 2);
        mount(k, 1, 2);
        leads(k, "a mount that shows its own point", 2, 1);
        leads(k, "by the plain way, too", 2, 2);
        leads(k, "up from 2 by the second mount is up from 1", 0, 2, UP);
        leads(k, "the second one is used again in the next step", 2, 2, UP, 2);
        mount(k, 2, Check.path(2, 4));
        leads(k, "the latest of one point counts", 4, 2);
        leads(k, "also from another mount", 4, 1);
    }

    /** A way up leads to a POINT without crossing: so one can mount on it again. */
    private static void twoMountsOfOnePoint() {
        Check.sentence(13, "what the latest such one SHOWS .. (each MOUNT once in one step)");
        CageKernel k = withTree(0);
        mount(k, 2, Check.path(1, 3));
        mount(k, Check.path(1, 3), Check.path(1, 3, 5));
        mount(k, 1, Check.path(2, 7));
        leads(k, "1 shows 7", 7, 1);
        leads(k, "a way up crosses no mount", 1, 2, UP);
        mount(k, Check.path(2, UP), Check.path(2, UP));
        leads(k, "the latest shows 1 itself, then the other one is taken", 7, 1);
        Check.due("so that is the one to unmount", 0, k.sys(0, Check.UNMOUNT, 1, 0));
        leads(k, "1 shows itself", 1, 1);
        leads(k, "with what is in it", 5, 1, 3);
        Check.due("the latest", 0, k.sys(0, Check.UNMOUNT, 1, 0));
        Check.due("no other", CageKernel.NONE, k.sys(0, Check.UNMOUNT, 1, 0));
        leads(k, "1 itself", 1, 1);
    }

    private static void theRootShown() {
        Check.sentence(13, "UP: from the ROOT, come to by no MOUNT, to itself; from what a MOUNT shows ..");
        CageKernel k = withTree(1);
        mount(k, Check.path(3, 5), 0);
        leads(k, "the root, come to by a mount", 1, 3, 5);
        leads(k, "up from it is up from the point", 3, 3, 5, UP);
        leads(k, "round again", 1, 3, 5, 3, 5);
        leads(k, "up from below", 1, 3, 5, 3, UP);
        leads(k, "and on from the point", 3, 3, 5, 3, UP, UP);
        leads(k, "the root itself", 1, UP);
        Check.due("it can be a point", 0, k.sys(0, Check.MOUNT, Check.path(3, 5), 3));
        leads(k, "which no way from the root crosses", 1);
        leads(k, "nor a way up to it", 1, 3, UP);
        leads(k, "but what shows it does", 3, 3, 5);
    }

    private static void calls() {
        Check.sentence(13, "Following one from the cage's ROOT: every call that takes a PATH");
        CageKernel k = withTree(0);
        mount(k, 1, 2);
        Check.due("write below a mount", 0, k.sys(0, Check.WRITE, Check.path(1, 4, 6, 8), 9));
        Check.due("read the file itself", 9, k.sys(0, Check.READ, Check.path(2, 4, 6, 8), 0));
        Check.due("make below a mount", 9, k.sys(0, Check.MAKE, Check.path(1, 9), Check.FILE));
        Check.due("it is in what is shown", 2, k.file(9, 2));
        Check.due("make looks at the name in the tree", CageKernel.EXISTS, k.sys(0, Check.MAKE, 1, 0));
        Check.due("give below a mount", 0, k.sys(0, Check.GIVE, Check.path(1, 9), 77));
        Check.due("owner", 77, k.file(9, 3));
        Check.due("remove below a mount", 0, k.sys(0, Check.REMOVE, Check.path(1, 9), 0));
        Check.due("what is shown is busy", CageKernel.BUSY, k.sys(0, Check.REMOVE, 1, 0));
    }
}
