/** node: the host makes a NODE in a DIRECTORY. A method for each of the document's sentences. */
public final class Promise02NodeTest {
    private static final int REFUSED = CageKernel.REFUSED;

    public static void main(String[] args) {
        itsNumber();
        inNoDirectory();
        names();
        kinds();
        owners();
        exists();
        full();
        whatIsTestedFirst();
        leastFreeNumber();
        intAtFirst();
        noCageUsesIt();
        Check.end();
    }

    private static void itsNumber() {
        Check.sentence(2, "The host makes a NODE in a DIRECTORY: its number.");
        CageKernel k = new CageKernel();
        Check.due("directory", 1, k.node(0, 14, Check.DIRECTORY, 255));
        Check.due("file in it", 2, k.node(1, 1, Check.FILE, 0));
        Check.row("node 1", what -> k.file(1, what), 0, 14, 0, 255, 1, -1);
        Check.row("node 2", what -> k.file(2, what), 1, 1, 1, 0, 0, -1);
        Check.due("count", 3, k.count(0));
    }

    private static void inNoDirectory() {
        Check.sentence(2, "REFUSED if in is no DIRECTORY that is there");
        CageKernel k = Check.oneCage(255);
        k.node(0, 1, Check.FILE, 0);
        k.node(0, 2, Check.DIRECTORY, 0);
        k.sys(0, Check.REMOVE, 2, 0);
        String before = Check.seen(k);
        Check.outside("in", 0, 31, REFUSED, in -> k.node(in, 2, 0, 0));
        Check.each("not there any more, or never", REFUSED, in -> k.node(in, 2, 0, 0), 2, 3, 31);
        Check.due("in a file", REFUSED, k.node(1, 2, 0, 0));
        Check.unchanged(before, k);
    }

    private static void names() {
        Check.sentence(2, "name not 1..14");
        CageKernel k = new CageKernel();
        Check.outside("name", 1, 14, REFUSED, name -> k.node(0, name, 0, 0));
        Check.due("nothing was made", 1, k.count(0));
        Check.due("the least name", 1, k.node(0, 1, 0, 0));
        Check.due("the highest name", 2, k.node(0, 14, 0, 0));
    }

    private static void kinds() {
        Check.sentence(2, "kind not 0 (DIRECTORY) or 1 (FILE)");
        CageKernel k = new CageKernel();
        Check.outside("kind", 0, 1, REFUSED, kind -> k.node(0, 2, kind, 0));
        Check.due("nothing was made", 1, k.count(0));
    }

    private static void owners() {
        Check.sentence(2, "owner not 0..255");
        CageKernel k = new CageKernel();
        Check.outside("owner", 0, 255, REFUSED, owner -> k.node(0, 2, 0, owner));
        Check.due("nothing was made", 1, k.count(0));
        Check.due("the least owner", 1, k.node(0, 1, 0, 0));
        Check.due("the highest owner", 2, k.node(0, 2, 0, 255));
        Check.due("it has it", 255, k.file(2, 3));
    }

    private static void exists() {
        Check.sentence(2, "EXISTS");
        CageKernel k = new CageKernel();
        k.node(0, 1, Check.DIRECTORY, 0);
        k.node(0, 2, Check.FILE, 0);
        String before = Check.seen(k);
        for (int kind = 0; kind <= 1; kind++) {
            Check.due("as the directory", CageKernel.EXISTS, k.node(0, 1, kind, 5));
            Check.due("as the file", CageKernel.EXISTS, k.node(0, 2, kind, 5));
        }
        Check.unchanged(before, k);
        Check.due("the same name elsewhere", 3, k.node(1, 1, Check.FILE, 0));
    }

    private static void full() {
        Check.sentence(2, "NODES 0..31, FULL");
        CageKernel k = Check.allNodes();
        Check.due("node 31 is there", 1, k.file(31, 0));
        Check.due("full", CageKernel.FULL, k.node(2, 14, 0, 0));
        Check.due("still 32", 32, k.count(0));
    }

    private static void whatIsTestedFirst() {
        Check.sentence(2, "REFUSED if ..; EXISTS; FULL");
        CageKernel k = Check.allNodes();
        Check.due("exists before full", CageKernel.EXISTS, k.node(2, 1, 0, 0));
        Check.due("refused before exists (kind)", REFUSED, k.node(2, 1, 2, 0));
        Check.due("refused before exists (owner)", REFUSED, k.node(2, 1, 0, 256));
        Check.due("refused before full (in)", REFUSED, k.node(3, 14, 0, 0));
        Check.due("refused before full (name)", REFUSED, k.node(2, 15, 0, 0));
    }

    private static void leastFreeNumber() {
        Check.sentence(2, "a new one gets the least number that is free");
        CageKernel k = Check.oneCage(255);
        for (int name = 1; name <= 4; name++) {
            Check.due("one after another", name, k.node(0, name, Check.FILE, 0));
        }
        k.sys(0, Check.REMOVE, 3, 0);
        k.sys(0, Check.REMOVE, 2, 0);
        Check.due("the least free", 2, k.node(0, 9, Check.FILE, 5));
        Check.due("the next", 3, k.node(0, 2, Check.DIRECTORY, 5));
        Check.due("the last", 5, k.node(0, 3, Check.DIRECTORY, 5));
    }

    private static void intAtFirst() {
        Check.sentence(2, "a FILE (with an int, at first 0)");
        CageKernel k = Check.oneCage(255);
        Check.due("a file", 1, k.node(0, 1, Check.FILE, 0));
        Check.due("at first", 0, k.file(1, 4));
        k.sys(0, Check.WRITE, 1, 99);
        k.sys(0, Check.REMOVE, 1, 0);
        Check.due("its number again", 1, k.node(0, 2, Check.FILE, 0));
        Check.due("at first", 0, k.file(1, 4));
    }

    private static void noCageUsesIt() {
        Check.sentence(2, "No cage USES it.");
        CageKernel k = new CageKernel();
        k.cage(0, 0, 256, -1, 0);
        Check.due("no limit binds the host", 1, k.node(0, 1, 0, 0));
        Check.due("not used", 0, k.look(0, 1));
        Check.due("made by the host", -1, k.file(1, 5));
    }
}
