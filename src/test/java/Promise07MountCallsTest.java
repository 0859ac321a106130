/**
 * The calls 12 MOUNT and 13 UNMOUNT; what PATHS do with MOUNTS is tested with promise 13. A method for each of the
 * document's sentences.
 */
public final class Promise07MountCallsTest {
    private static final int UP = Check.UP;
    private static final int MISSING = CageKernel.MISSING, KIND = CageKernel.KIND, DENIED = CageKernel.DENIED,
            BUSY = CageKernel.BUSY, FULL = CageKernel.FULL, NONE = CageKernel.NONE;

    public static void main(String[] args) {
        mount();
        mountMissing();
        mountKind();
        mountDenied();
        mountBusy();
        mountFull();
        mountOrder();
        unmountMissing();
        unmountNone();
        unmountDenied();
        unmountBusy();
        unmountBusyNoMore();
        unmountOrder();
        unmount();
        theOthersStay();
        eachCageHasItsOwn();
        Check.end();
    }

    /** DIRECTORIES 1, 2, 3 and FILE 5 in the root, DIRECTORY 4 in 1; NODES and OWNERS have the same numbers. */
    private static CageKernel withNodes(int powers) {
        CageKernel k = Check.oneCage(powers);
        for (int name = 1; name <= 3; name++) {
            k.node(0, name, Check.DIRECTORY, name);
        }
        k.node(1, 4, Check.DIRECTORY, 4);
        k.node(0, 5, Check.FILE, 5);
        return k;
    }

    private static int mount(CageKernel k, int point, int shown) {
        return k.sys(0, Check.MOUNT, point, shown);
    }

    private static int unmount(CageKernel k, int... names) {
        return k.sys(0, Check.UNMOUNT, Check.path(names), 0);
    }

    private static void mount() {
        Check.sentence(7, "12 MOUNT a b: a POINT a that shows b: .. 0");
        CageKernel k = withNodes(8);
        Check.due("mount", 0, mount(k, 2, 1));
        Check.due("shown", 1, k.sys(0, Check.LOOK, 2, 0));
        Check.due("below it", 4, k.sys(0, Check.LOOK, Check.path(2, 4), 0));
        Check.due("mounts", 1, k.look(0, 3));
        Check.due("the tree stays", 0, k.file(2, 4));
    }

    private static void mountMissing() {
        Check.sentence(7, "12 MOUNT a b: MISSING (a, then b)");
        CageKernel k = withNodes(255);
        Check.due("no point", MISSING, mount(k, 9, 1));
        Check.due("shows nothing", MISSING, mount(k, 1, 9));
        Check.due("both", MISSING, mount(k, 9, 9));
        Check.due("a name in a file", MISSING, mount(k, Check.path(5, 1), 1));
        Check.due("shows a name in a file", MISSING, mount(k, 1, Check.path(5, 1)));
        for (int bit = 28; bit < 32; bit++) {
            Check.due("a point with bit " + bit, MISSING, mount(k, 1 | 1 << bit, 2));
            Check.due("shows bit " + bit, MISSING, mount(k, 1, 2 | 1 << bit));
        }
        Check.due("no mounts", 0, k.look(0, 3));
    }

    private static void mountKind() {
        Check.sentence(7, "12 MOUNT a b: KIND if one is a FILE");
        CageKernel k = withNodes(255);
        Check.due("a file as a point", KIND, mount(k, 5, 1));
        Check.due("shows a file", KIND, mount(k, 1, 5));
        Check.due("both", KIND, mount(k, 5, 5));
        Check.due("no mounts", 0, k.look(0, 3));
    }

    private static void mountDenied() {
        Check.sentence(7, "12 MOUNT a b: DENIED if MOUNT is not in EFFECTIVE");
        CageKernel k = withNodes(255);
        k.sys(0, Check.POWERS, 0, 247);
        Check.due("all powers but mount", DENIED, mount(k, 1, 2));
        Check.due("no mounts", 0, k.look(0, 3));
        k.sys(0, Check.POWERS, 0, 8);
        Check.due("mount alone", 0, mount(k, 1, 2));
    }

    private static void mountBusy() {
        Check.sentence(7, "12 MOUNT a b: BUSY if a leads to the ROOT, come to by no MOUNT");
        CageKernel k = withNodes(8);
        Check.due("the root", BUSY, mount(k, 0, 1));
        Check.due("the root by a way up", BUSY, mount(k, Check.path(1, UP), 1));
        Check.due("the root above the root", BUSY, mount(k, Check.path(UP, UP), 1));
        Check.due("no mounts", 0, k.look(0, 3));
        Check.due("shows the root", 0, mount(k, 1, 0));
        Check.due("the root, come to by a mount", 0, mount(k, 1, 2));
        Check.due("two", 2, k.look(0, 3));
    }

    private static void mountFull() {
        Check.sentence(7, "12 MOUNT a b: FULL if there are 4; at most 4 MOUNTS");
        CageKernel k = withNodes(255);
        k.node(0, 6, Check.DIRECTORY, 6);
        int[] points = {1, 2, 3, 6};
        for (int i = 0; i < points.length; i++) {
            Check.due("mount " + i, 0, mount(k, points[i], 0));
            Check.due("so many", i + 1, k.look(0, 3));
        }
        Check.due("full", FULL, mount(k, 3, 2));
        Check.due("four", 4, k.look(0, 3));
        Check.due("one less", 0, unmount(k, 2));
        Check.due("room again", 0, mount(k, 2, 0));
        Check.due("full again", FULL, mount(k, 3, 2));
    }

    private static void mountOrder() {
        Check.sentence(7, "12 MOUNT a b: MISSING ..; KIND ..; DENIED ..; BUSY ..; FULL ..");
        CageKernel k = withNodes(247);
        Check.due("missing (a) before kind (b)", MISSING, mount(k, 9, 5));
        Check.due("missing (b) before kind (a)", MISSING, mount(k, 5, 9));
        Check.due("missing before denied", MISSING, mount(k, 9, 1));
        Check.due("missing (b) before busy", MISSING, mount(k, 0, 9));
        Check.due("kind before denied", KIND, mount(k, 5, 1));
        Check.due("kind (b) before busy", KIND, mount(k, 0, 5));
        Check.due("denied before busy", DENIED, mount(k, 0, 2));
        CageKernel full = withNodes(255);
        for (int n = 0; n < 4; n++) {
            Check.due("mount", 0, mount(full, 1 + n % 3, 0));
        }
        Check.due("busy before full", BUSY, mount(full, 0, 3));
        Check.due("kind before full", KIND, mount(full, 5, 3));
        Check.due("missing before full", MISSING, mount(full, 9, 3));
        full.sys(0, Check.POWERS, 0, 247);
        Check.due("denied before full", DENIED, mount(full, 3, 2));
    }

    private static void unmountMissing() {
        Check.sentence(7, "13 UNMOUNT a: MISSING");
        CageKernel k = withNodes(255);
        mount(k, 2, 1);
        Check.due("no such name", MISSING, unmount(k, 9));
        Check.due("hidden by the mount", MISSING, unmount(k, 2, 9));
        Check.due("a name in a file", MISSING, unmount(k, 5, 1));
        for (int bit = 28; bit < 32; bit++) {
            Check.due("bit " + bit, MISSING, k.sys(0, Check.UNMOUNT, 2 | 1 << bit, 0));
        }
        Check.due("it is still there", 1, k.look(0, 3));
    }

    private static void unmountNone() {
        Check.sentence(7, "13 UNMOUNT a: NONE if it is not shown by the MOUNT by which it was come to");
        CageKernel k = withNodes(255);
        Check.due("no mount at all", NONE, unmount(k, 1));
        mount(k, 2, 1);
        Check.due("the root", NONE, unmount(k));
        Check.due("shown, but come to by no mount", NONE, unmount(k, 1));
        Check.due("come to by it, but below what it shows", NONE, unmount(k, 2, 4));
        Check.due("a file", NONE, unmount(k, 5));
        Check.due("up from what it shows", NONE, unmount(k, 2, UP));
        Check.due("it is still there", 1, k.look(0, 3));
    }

    private static void unmountDenied() {
        Check.sentence(7, "13 UNMOUNT a: DENIED likewise");
        CageKernel k = withNodes(255);
        mount(k, 2, 1);
        k.sys(0, Check.POWERS, 0, 247);
        Check.due("all powers but mount", DENIED, unmount(k, 2));
        Check.due("it is still there", 1, k.look(0, 3));
        k.sys(0, Check.POWERS, 0, 8);
        Check.due("mount alone", 0, unmount(k, 2));
    }

    private static void unmountBusy() {
        Check.sentence(7, "13 UNMOUNT a: BUSY if another MOUNT's POINT was come by it");
        CageKernel k = withNodes(255);
        mount(k, 2, 1);
        mount(k, Check.path(2, 4), 3);
        mount(k, 3, 1);
        Check.due("a point was come to by it", BUSY, unmount(k, 2));
        Check.due("three are there", 3, k.look(0, 3));
        Check.due("no point was come to by this one", 0, unmount(k, 3));
        Check.due("still busy", BUSY, unmount(k, 2));
        Check.due("that one first", 0, unmount(k, 2, 4));
        Check.due("then it", 0, unmount(k, 2));
        Check.due("none is left", 0, k.look(0, 3));
    }

    private static void unmountBusyNoMore() {
        Check.sentence(7, "13 UNMOUNT a: BUSY if another MOUNT's POINT was come by it: not if that MOUNT is gone");
        CageKernel k = withNodes(255);
        k.node(0, 6, Check.DIRECTORY, 6);
        mount(k, 2, 1);
        mount(k, 3, 0);
        mount(k, 6, 0);
        Check.due("the fourth", 0, mount(k, Check.path(2, 4), 0));
        Check.due("the first is busy", BUSY, unmount(k, 2));
        Check.due("the fourth is gone", 0, unmount(k, 2, 4));
        Check.due("the first is not busy any more", 0, unmount(k, 2));
        Check.due("two are left", 2, k.look(0, 3));
    }

    private static void unmountOrder() {
        Check.sentence(7, "13 UNMOUNT a: MISSING; NONE ..; DENIED ..; BUSY ..");
        CageKernel k = withNodes(255);
        mount(k, 2, 1);
        mount(k, Check.path(2, 4), 3);
        k.sys(0, Check.POWERS, 0, 247);
        Check.due("missing before denied", MISSING, unmount(k, 9));
        Check.due("none before denied", NONE, unmount(k, 1));
        Check.due("denied before busy", DENIED, unmount(k, 2));
    }

    private static void unmount() {
        Check.sentence(7, "13 UNMOUNT a: it is gone: 0");
        CageKernel k = withNodes(255);
        mount(k, 2, 1);
        Check.due("gone", 0, unmount(k, 2));
        Check.due("no mount", 0, k.look(0, 3));
        Check.due("itself again", 2, k.sys(0, Check.LOOK, 2, 0));
        Check.due("none", NONE, unmount(k, 2));
    }

    private static void theOthersStay() {
        Check.sentence(7, "13 UNMOUNT a: it is gone: the others stay as they were");
        CageKernel k = withNodes(255);
        mount(k, 2, 1);
        mount(k, 3, 1);
        mount(k, Check.path(3, 4), 0);
        Check.due("the earliest goes", 0, unmount(k, 2));
        Check.due("the others show what they did", 0, k.sys(0, Check.LOOK, Check.path(3, 4), 0));
        Check.due("way up to what the other shows", 1, k.sys(0, Check.LOOK, Check.path(3, 4, UP), 0));
        Check.due("the other is busy", BUSY, unmount(k, 3));
        Check.due("also by that way", BUSY, unmount(k, 3, 4, UP));
        Check.due("a new one", 0, mount(k, 2, 2));
        Check.due("is not busy", 0, unmount(k, 2));
    }

    private static void eachCageHasItsOwn() {
        Check.sentence(7, "CAGES 0..3 have .. at most 4 MOUNTS");
        CageKernel k = withNodes(255);
        k.cage(0, 0, 256, 0, 255);
        k.start(1, 255, -1);
        k.sys(0, Check.FORK, 0, 0);
        mount(k, 2, 1);
        Check.due("all of the cage see it", 1, k.sys(2, Check.LOOK, 2, 0));
        Check.due("other cages do not", 2, k.sys(1, Check.LOOK, 2, 0));
        Check.due("nor take it away", NONE, k.sys(1, Check.UNMOUNT, 2, 0));
        for (int n = 0; n < 4; n++) {
            Check.due("they have four of their own", 0, k.sys(1, Check.MOUNT, 1 + n % 3, 0));
        }
        Check.due("another of the cage takes it away", 0, k.sys(2, Check.UNMOUNT, 2, 0));
    }
}
