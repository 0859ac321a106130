/** The calls 4 READ, 5 WRITE, 8 GIVE and 17 LOOK. A method for each of the document's sentences. */
public final class Promise07FileCallsTest {
    private static final int MISSING = CageKernel.MISSING, KIND = CageKernel.KIND, DENIED = CageKernel.DENIED;

    public static void main(String[] args) {
        missing();
        readKind();
        writeKind();
        readAndWrite();
        writeDenied();
        mayChangeItsOwn();
        mayChangeWithOwn();
        giveWithoutOwn();
        giveOwnersWithoutNumber();
        giveToNoUser();
        giveMakesOwner();
        lookNumbers();
        Check.end();
    }

    /** DIRECTORIES 1, 3, .. and FILES 2, 4, .. in the root, with these OWNERS; NAMES are the numbers of the NODES. */
    private static CageKernel withOwners(int powers, int... owners) {
        CageKernel k = new CageKernel();
        for (int i = 0; i < owners.length; i++) {
            k.node(0, 2 * i + 1, Check.DIRECTORY, owners[i]);
            k.node(0, 2 * i + 2, Check.FILE, owners[i]);
        }
        k.cage(0, 10, 5, -1, 255);
        Check.due("start", 0, k.start(0, powers, -1));
        return k;
    }

    private static void missing() {
        Check.sentence(7, "READ a, WRITE a b, GIVE a b, LOOK a: MISSING");
        CageKernel k = withOwners(255, 10);
        for (int call : new int[] {Check.READ, Check.WRITE, Check.GIVE, Check.LOOK}) {
            Check.due("no such name", MISSING, k.sys(0, call, 3, 99));
            Check.due("none in a directory", MISSING, k.sys(0, call, Check.path(1, 1), 99));
            Check.due("a name in a file", MISSING, k.sys(0, call, Check.path(2, 1), 99));
            for (int bit = 28; bit < 32; bit++) {
                Check.due("bit " + bit, MISSING, k.sys(0, call, 2 | 1 << bit, 99));
            }
        }
    }

    private static void readKind() {
        Check.sentence(7, "4 READ a: KIND if it is a DIRECTORY");
        CageKernel k = withOwners(255, 10);
        Check.due("a directory", KIND, k.sys(0, Check.READ, 1, 0));
        Check.due("the root", KIND, k.sys(0, Check.READ, 0, 0));
        Check.due("by a way up", KIND, k.sys(0, Check.READ, Check.path(1, Check.UP), 0));
        Check.due("a file", 0, k.sys(0, Check.READ, 2, 0));
    }

    private static void writeKind() {
        Check.sentence(7, "5 WRITE a b: KIND; DENIED if it MAY not");
        CageKernel k = withOwners(255, 10, 15);
        Check.due("a directory", KIND, k.sys(0, Check.WRITE, 1, 0));
        Check.due("kind before denied", KIND, k.sys(0, Check.WRITE, 3, 0));
        Check.due("the root, kind before denied", KIND, k.sys(0, Check.WRITE, 0, 0));
    }

    private static void readAndWrite() {
        Check.sentence(7, "4 READ a: its int; 5 WRITE a b: its int becomes b: 0");
        CageKernel k = withOwners(0, 10, 10);
        Check.due("at first", 0, k.sys(0, Check.READ, 2, 0));
        for (int value : new int[] {7, -5, Check.LEAST, Check.MOST, MISSING, 0}) {
            Check.due("write", 0, k.sys(0, Check.WRITE, 2, value));
            Check.due("read", value, k.sys(0, Check.READ, 2, 0));
            Check.due("file", value, k.file(2, 4));
            Check.due("the other file's stays", 0, k.sys(0, Check.READ, 4, 0));
        }
    }

    private static void writeDenied() {
        Check.sentence(7, "5 WRITE a b: DENIED if it MAY not");
        CageKernel k = withOwners(0, 11);
        Check.due("denied", DENIED, k.sys(0, Check.WRITE, 2, 9));
        Check.due("the int stays", 0, k.file(2, 4));
        Check.due("everybody may read", 0, k.sys(0, Check.READ, 2, 0));
    }

    private static void mayChangeItsOwn() {
        Check.sentence(7, "It MAY change a NODE whose OWNER is its user's host user");
        CageKernel k = withOwners(254, 0, 9, 10, 11, 14, 15);
        int[] asZero = {DENIED, DENIED, 0, DENIED, DENIED, DENIED};
        int[] asFour = {DENIED, DENIED, DENIED, DENIED, 0, DENIED};
        for (int i = 0; i < asZero.length; i++) {
            Check.due("user 0, owner " + i, asZero[i], k.sys(0, Check.WRITE, 2 * i + 2, 1));
        }
        k.sys(0, Check.USER, 4, 0);
        for (int i = 0; i < asFour.length; i++) {
            Check.due("user 4, owner " + i, asFour[i], k.sys(0, Check.WRITE, 2 * i + 2, 1));
        }
    }

    private static void mayChangeWithOwn() {
        Check.sentence(7, "or, with OWN in EFFECTIVE, one whose OWNER has a number in its cage");
        CageKernel k = withOwners(255, 0, 9, 10, 11, 14, 15);
        int[] withOwn = {DENIED, DENIED, 0, 0, 0, DENIED};
        k.sys(0, Check.POWERS, 0, 1);
        for (int i = 0; i < withOwn.length; i++) {
            Check.due("with own, owner " + i, withOwn[i], k.sys(0, Check.WRITE, 2 * i + 2, 1));
        }
        k.sys(0, Check.POWERS, 0, 254);
        Check.due("own is only permitted", DENIED, k.sys(0, Check.WRITE, 8, 1));
    }

    private static void giveWithoutOwn() {
        Check.sentence(7, "8 GIVE a b: DENIED if OWN is not in EFFECTIVE");
        CageKernel k = withOwners(255, 10);
        k.sys(0, Check.POWERS, 0, 254);
        Check.due("its own, to itself", DENIED, k.sys(0, Check.GIVE, 1, 0));
        Check.due("the owner stays", 10, k.file(1, 3));
        k.sys(0, Check.POWERS, 0, 1);
        Check.due("with own alone", 0, k.sys(0, Check.GIVE, 1, 1));
    }

    private static void giveOwnersWithoutNumber() {
        Check.sentence(7, "8 GIVE a b: DENIED if .. its OWNER has no number in the cage");
        CageKernel k = withOwners(255, 9, 10, 14, 15);
        int[] due = {DENIED, DENIED, 0, 0, 0, 0, DENIED, DENIED};
        for (int n = 1; n <= 8; n++) {
            Check.due("node " + n, due[n - 1], k.sys(0, Check.GIVE, n, 2));
        }
        Check.due("the root's owner is host user 0", DENIED, k.sys(0, Check.GIVE, 0, 2));
        Check.due("the owner stays", 15, k.file(8, 3));
    }

    private static void giveToNoUser() {
        Check.sentence(7, "8 GIVE a b: DENIED if .. b is no user of it");
        CageKernel k = withOwners(255, 10);
        Check.outside("user", 0, 4, DENIED, user -> k.sys(0, Check.GIVE, 1, user));
        Check.due("a host user is none", DENIED, k.sys(0, Check.GIVE, 1, 10));
        Check.due("the owner stays", 10, k.file(1, 3));
    }

    private static void giveMakesOwner() {
        Check.sentence(7, "8 GIVE a b: b is its OWNER: 0");
        CageKernel k = withOwners(255, 11);
        Check.due("a directory to the least", 0, k.sys(0, Check.GIVE, 1, 0));
        Check.due("owner", 10, k.file(1, 3));
        Check.due("a file to the last", 0, k.sys(0, Check.GIVE, 2, 4));
        Check.due("owner", 14, k.file(2, 3));
    }

    private static void lookNumbers() {
        Check.sentence(7, "17 LOOK a: its OWNER's number in the cage, 255 if it has none, and 256 for a FILE");
        CageKernel k = withOwners(0, 9, 10, 14, 15, 255);
        int[] numbers = {255, 0, 4, 255, 255};
        for (int i = 0; i < numbers.length; i++) {
            Check.due("directory " + i, numbers[i], k.sys(0, Check.LOOK, 2 * i + 1, 0));
            Check.due("file " + i, 256 + numbers[i], k.sys(0, Check.LOOK, 2 * i + 2, 0));
        }
        Check.due("the root", 255, k.sys(0, Check.LOOK, 0, 0));
        CageKernel all = Check.oneCage(0);
        all.node(0, 1, Check.FILE, 255);
        Check.due("number 255", 256 + 255, all.sys(0, Check.LOOK, 1, 0));
        Check.due("number 0", 0, all.sys(0, Check.LOOK, 0, 0));
    }
}
