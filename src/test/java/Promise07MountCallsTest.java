/** The calls 12 MOUNT and 13 UNMOUNT; what PATHS do with MOUNTS is tested with promise 13. */
public final class Promise07MountCallsTest {
    private static final int UP = Check.UP;

    public static void main(String[] args) {
        mount();
        mountOrder();
        mountFull();
        unmount();
        unmountBusy();
        eachCageHasItsOwn();
        Check.end();
    }

    /** Directories 1, 2, 3 in the root, directory 4 in 1, file 5 in the root; NODES have the same numbers. */
    private static CageKernel withNodes(int powers) {
        CageKernel k = Check.oneCage(powers);
        for (int name = 1; name <= 3; name++) {
            k.node(0, name, Check.DIRECTORY, name);
        }
        k.node(1, 4, Check.DIRECTORY, 4);
        k.node(0, 5, Check.FILE, 5);
        return k;
    }

    private static void mount() {
        CageKernel k = withNodes(8);
        Check.due("mount", 0, k.sys(0, Check.MOUNT, 2, 1));
        Check.due("shown", 1, k.sys(0, Check.LOOK, 2, 0));
        Check.due("below it", 4, k.sys(0, Check.LOOK, Check.path(2, 4), 0));
        Check.due("mounts", 1, k.look(0, 3));
        Check.due("the tree stays", 0, k.file(2, 4));
    }

    private static void mountOrder() {
        CageKernel k = withNodes(247);
        int missing = CageKernel.MISSING;
        Check.due("no point", missing, k.sys(0, Check.MOUNT, 9, 5));
        Check.due("shows nothing", missing, k.sys(0, Check.MOUNT, 5, 9));
        Check.due("a point with other bits", missing, k.sys(0, Check.MOUNT, 1 << 28, 1));
        Check.due("shows other bits", missing, k.sys(0, Check.MOUNT, 1, 1 << 31));
        Check.due("a file as a point", CageKernel.KIND, k.sys(0, Check.MOUNT, 5, 1));
        Check.due("shows a file", CageKernel.KIND, k.sys(0, Check.MOUNT, 1, 5));
        Check.due("kind before busy", CageKernel.KIND, k.sys(0, Check.MOUNT, 0, 5));
        Check.due("denied", CageKernel.DENIED, k.sys(0, Check.MOUNT, 1, 2));
        Check.due("denied before busy", CageKernel.DENIED, k.sys(0, Check.MOUNT, 0, 2));
        Check.due("no mounts", 0, k.look(0, 3));
        CageKernel able = withNodes(8);
        Check.due("the root", CageKernel.BUSY, able.sys(0, Check.MOUNT, 0, 1));
        Check.due("the root by a way up", CageKernel.BUSY, able.sys(0, Check.MOUNT, Check.path(1, UP), 1));
        Check.due("shows the root", 0, able.sys(0, Check.MOUNT, 1, 0));
        Check.due("the root, come to by a mount", 0, able.sys(0, Check.MOUNT, 1, 2));
        Check.due("two", 2, able.look(0, 3));
    }

    private static void mountFull() {
        CageKernel k = withNodes(255);
        Check.due("first", 0, k.sys(0, Check.MOUNT, 1, 3));
        Check.due("second", 0, k.sys(0, Check.MOUNT, 1, 2));
        Check.due("third", 0, k.sys(0, Check.MOUNT, 3, 3));
        Check.due("fourth", 0, k.sys(0, Check.MOUNT, 3, 2));
        Check.due("full", CageKernel.FULL, k.sys(0, Check.MOUNT, 3, 3));
        Check.due("busy before full", CageKernel.BUSY, k.sys(0, Check.MOUNT, 0, 3));
        Check.due("four", 4, k.look(0, 3));
    }

    private static void unmount() {
        CageKernel k = withNodes(255);
        k.sys(0, Check.MOUNT, 2, 1);
        Check.due("missing", CageKernel.MISSING, k.sys(0, Check.UNMOUNT, 9, 0));
        Check.due("the root", CageKernel.NONE, k.sys(0, Check.UNMOUNT, 0, 0));
        Check.due("shown, but come to by itself", CageKernel.NONE, k.sys(0, Check.UNMOUNT, 1, 0));
        Check.due("below what it shows", CageKernel.NONE, k.sys(0, Check.UNMOUNT, Check.path(2, 4), 0));
        Check.due("a file", CageKernel.NONE, k.sys(0, Check.UNMOUNT, 5, 0));
        k.sys(0, Check.POWERS, 0, 247);
        Check.due("none before denied", CageKernel.NONE, k.sys(0, Check.UNMOUNT, 1, 0));
        Check.due("denied", CageKernel.DENIED, k.sys(0, Check.UNMOUNT, 2, 0));
        Check.due("it is still there", 1, k.look(0, 3));
        k.sys(0, Check.POWERS, 0, 8);
        Check.due("gone", 0, k.sys(0, Check.UNMOUNT, 2, 0));
        Check.due("no mount", 0, k.look(0, 3));
        Check.due("itself again", 2, k.sys(0, Check.LOOK, 2, 0));
        Check.due("none", CageKernel.NONE, k.sys(0, Check.UNMOUNT, 2, 0));
    }

    private static void unmountBusy() {
        CageKernel k = withNodes(255);
        k.sys(0, Check.MOUNT, 2, 1);
        k.sys(0, Check.MOUNT, Check.path(2, 4), 3);
        k.sys(0, Check.MOUNT, 3, 1);
        Check.due("a point was come to by it", CageKernel.BUSY, k.sys(0, Check.UNMOUNT, 2, 0));
        k.sys(0, Check.POWERS, 0, 0);
        Check.due("denied before busy", CageKernel.DENIED, k.sys(0, Check.UNMOUNT, 2, 0));
        k.sys(0, Check.POWERS, 0, 255);
        Check.due("no point was come to by this one", 0, k.sys(0, Check.UNMOUNT, 3, 0));
        Check.due("that one first", 0, k.sys(0, Check.UNMOUNT, Check.path(2, 4), 0));
        Check.due("then it", 0, k.sys(0, Check.UNMOUNT, 2, 0));
        Check.due("none is left", 0, k.look(0, 3));
        k.sys(0, Check.MOUNT, 2, 1);
        k.sys(0, Check.MOUNT, 3, 1);
        k.sys(0, Check.MOUNT, Check.path(3, 4), 0);
        Check.due("the earlier one goes", 0, k.sys(0, Check.UNMOUNT, 2, 0));
        Check.due("the others stay as they were", 0, k.sys(0, Check.LOOK, Check.path(3, 4), 0));
        Check.due("way up to what the other shows", 1, k.sys(0, Check.LOOK, Check.path(3, 4, UP), 0));
        Check.due("the other is busy", CageKernel.BUSY, k.sys(0, Check.UNMOUNT, 3, 0));
        Check.due("also by that way", CageKernel.BUSY, k.sys(0, Check.UNMOUNT, Check.path(3, 4, UP), 0));
    }

    private static void eachCageHasItsOwn() {
        CageKernel k = withNodes(255);
        k.cage(0, 0, 256, 0, 255);
        k.start(1, 255, -1);
        k.sys(0, Check.FORK, 0, 0);
        k.sys(0, Check.MOUNT, 2, 1);
        Check.due("all of the cage see it", 1, k.sys(2, Check.LOOK, 2, 0));
        Check.due("other cages do not", 2, k.sys(1, Check.LOOK, 2, 0));
        Check.due("nor take it away", CageKernel.NONE, k.sys(1, Check.UNMOUNT, 2, 0));
        Check.due("another of the cage does", 0, k.sys(2, Check.UNMOUNT, 2, 0));
    }
}
