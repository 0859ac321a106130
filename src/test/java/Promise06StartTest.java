/** start: a cage gets its INIT. A method for each of the document's sentences. */
public final class Promise06StartTest {
    private static final int REFUSED = CageKernel.REFUSED;

    public static void main(String[] args) {
        itsInit();
        cages();
        powers();
        filters();
        goodFilters();
        busy();
        full();
        quota();
        whatIsTestedFirst();
        leastFreeNumber();
        anew();
        Check.end();
    }

    private static void processIs(CageKernel k, int p, int... due) {
        Check.row("process " + p, what -> k.process(p, what), due);
    }

    private static void itsInit() {
        Check.sentence(6, "Cage c is started: its INIT, number 1 in it, without a PARENT, with user 0; EFFECTIVE, "
                + "PERMITTED and BOUND are powers, INHERITED is 0; with FILTER f, or none (-1). The PROCESS.");
        CageKernel k = new CageKernel();
        k.cage(0, 0, 9, -1, 255);
        k.cage(0, 0, 9, -1, 255);
        Check.giveAlways(k, 3, 2);
        Check.due("without a filter", 0, k.start(1, 173, -1));
        Check.due("with a filter", 1, k.start(0, 0, 3));
        processIs(k, 0, 1, 1, 1, 0, -1, 173, 173, 0, 173, 0, 0);
        processIs(k, 1, 1, 0, 1, 0, -1, 0, 0, 0, 0, 1, 0);
        Check.due("started", 1, k.look(1, 0));
        Check.due("numbers", 1, k.look(1, 6));
        Check.due("live", 2, k.count(2));
    }

    private static void cages() {
        Check.sentence(6, "REFUSED if there is no such cage");
        CageKernel k = new CageKernel();
        for (int there = 0; there < 4; there++) {
            Check.outside("cage", 0, there - 1, REFUSED, c -> k.start(c, 0, -1));
            k.cage(0, 0, 9, -1, 255);
        }
        Check.outside("cage", 0, 3, REFUSED, c -> k.start(c, 0, -1));
        Check.due("none was made", 0, k.count(2));
        Check.due("the last one", 0, k.start(3, 0, -1));
    }

    private static void powers() {
        Check.sentence(6, "powers are not 0..255");
        CageKernel k = new CageKernel();
        k.cage(0, 0, 9, -1, 255);
        k.cage(0, 0, 9, -1, 255);
        Check.outside("powers", 0, 255, REFUSED, powers -> k.start(0, powers, -1));
        Check.due("none was made", 0, k.count(2));
        Check.due("not started", 0, k.look(0, 0));
        Check.due("the least", 0, k.start(0, 0, -1));
        Check.due("the highest", 1, k.start(1, 255, -1));
        processIs(k, 0, 1, 0, 1, 0, -1, 0, 0, 0, 0, 0, 0);
        processIs(k, 1, 1, 1, 1, 0, -1, 255, 255, 0, 255, 0, 0);
    }

    private static void filters() {
        Check.sentence(6, "f is neither -1 nor a GOOD FILTER: no FILTER");
        CageKernel k = new CageKernel();
        for (int f = 0; f <= 3; f++) {
            Check.giveAlways(k, f, 2);
        }
        k.cage(0, 0, 9, -1, 255);
        Check.outside("filter", -1, 3, REFUSED, f -> k.start(0, 255, f));
        Check.due("none was made", 0, k.count(2));
        for (int f = -1; f <= 3; f++) {
            Check.due("filter " + f, 0, k.start(0, 255, f));
            Check.due("how many", f < 0 ? 0 : 1, k.process(0, 9));
            k.kill(0);
        }
    }

    private static void goodFilters() {
        Check.sentence(6, "f is neither -1 nor a GOOD FILTER: one that is not GOOD");
        CageKernel k = new CageKernel();
        k.cage(0, 0, 9, -1, 255);
        Check.due("an empty one", REFUSED, k.start(0, 255, 0));
        k.step(0, 7, 2, 0);
        k.step(0, 0, 0, 0);
        Check.due("the last is no give", REFUSED, k.start(0, 255, 0));
        k.step(1, 6, 0, 1);
        k.step(1, 7, 2, 0);
        Check.due("the last is passed over", REFUSED, k.start(0, 255, 1));
        Check.due("none was made", 0, k.count(2));
        Check.due("not started", 0, k.look(0, 0));
        k.step(1, 7, 2, 0);
        Check.due("not the last any more", 0, k.start(0, 255, 1));
    }

    private static void busy() {
        Check.sentence(6, "BUSY if it is started");
        CageKernel k = Check.oneCage(7);
        k.sys(0, Check.FORK, 0, 0);
        String before = Check.seen(k);
        Check.due("busy", CageKernel.BUSY, k.start(0, 255, -1));
        Check.unchanged(before, k);
        k.kill(1);
        Check.due("init is there still", CageKernel.BUSY, k.start(0, 255, -1));
        k.kill(0);
        Check.due("not started any more", 0, k.start(0, 255, -1));
    }

    private static void full() {
        Check.sentence(6, "FULL if no PROCESS is free");
        CageKernel k = Check.oneCage(255);
        k.cage(0, 0, 9, -1, 255);
        k.cage(0, 0, 9, -1, 255);
        for (int n = 2; n <= 15; n++) {
            k.sys(0, Check.FORK, 0, 0);
        }
        Check.due("the last process", 15, k.start(1, 255, -1));
        Check.due("full", CageKernel.FULL, k.start(2, 255, -1));
        Check.due("not started", 0, k.look(2, 0));
        k.kill(7);
        Check.due("a zombie is not free", CageKernel.FULL, k.start(2, 255, -1));
        k.sys(0, Check.WAIT, 0, 0);
        Check.due("one is free", 7, k.start(2, 255, -1));
    }

    private static void quota() {
        Check.sentence(6, "QUOTA");
        CageKernel k = new CageKernel();
        k.cage(0, 0, 9, -1, 0x1f);
        k.cage(0, 0, 9, 0, 255);
        k.cage(0, 0, 9, 1, 255);
        k.cage(0, 0, 9, -1, 0x0f);
        Check.due("a limit of 0", CageKernel.QUOTA, k.start(3, 255, -1));
        Check.due("a limit of 1", 0, k.start(0, 255, -1));
        Check.due("the outer cage's limit", CageKernel.QUOTA, k.start(1, 255, -1));
        Check.due("that of the one around that", CageKernel.QUOTA, k.start(2, 255, -1));
        Check.due("not started", 0, k.look(1, 0) + k.look(2, 0) + k.look(3, 0));
        Check.due("no number was given", 0, k.look(1, 6) + k.look(2, 6) + k.look(3, 6));
        k.kill(0);
        Check.due("room again", 0, k.start(2, 255, -1));
        Check.due("used by the cage in it", CageKernel.QUOTA, k.start(0, 255, -1));
    }

    private static void whatIsTestedFirst() {
        Check.sentence(6, "REFUSED if ..; BUSY if ..; FULL if ..; QUOTA");
        CageKernel k = Check.oneCage(255);
        k.cage(0, 0, 9, -1, 0x1f);
        k.cage(0, 0, 9, -1, 0);
        k.start(1, 255, -1);
        Check.due("refused before busy (powers)", REFUSED, k.start(1, 256, -1));
        Check.due("refused before busy (filter)", REFUSED, k.start(1, 255, 0));
        Check.due("busy before quota", CageKernel.BUSY, k.start(1, 255, -1));
        Check.due("refused before quota", REFUSED, k.start(2, 256, -1));
        Check.fillProcesses(k, 0);
        Check.due("full before quota", CageKernel.FULL, k.start(2, 255, -1));
        Check.due("busy before full", CageKernel.BUSY, k.start(1, 255, -1));
        Check.due("refused before full", REFUSED, k.start(2, -1, -1));
        k.kill(7);
        k.sys(0, Check.WAIT, 0, 0);
        Check.due("quota when one is free", CageKernel.QUOTA, k.start(2, 255, -1));
    }

    private static void leastFreeNumber() {
        Check.sentence(6, "PROCESSES 0..15 (a new one gets the least number that is free)");
        CageKernel k = new CageKernel();
        for (int c = 0; c < 4; c++) {
            k.cage(0, 0, 9, -1, 255);
            Check.due("one after another", c, k.start(c, 255, -1));
        }
        k.kill(2);
        k.kill(0);
        Check.due("the least free", 0, k.start(2, 255, -1));
        Check.due("the next", 2, k.start(0, 255, -1));
    }

    private static void anew() {
        Check.sentence(6, "1 for the one that it was started with (its INIT), then 2, 3, .. (none comes again before "
                + "it is started anew)");
        CageKernel k = Check.oneCage(255);
        Check.giveAlways(k, 0, 2);
        k.sys(0, Check.POWERS, 2, 7);
        k.sys(0, Check.FILTER, 0, 0);
        k.sys(0, Check.FORK, 0, 0);
        k.sys(0, Check.USER, 3, 0);
        k.sys(0, Check.EXIT, 9, 0);
        Check.due("again", 0, k.start(0, 40, -1));
        processIs(k, 0, 1, 0, 1, 0, -1, 40, 40, 0, 40, 0, 0);
        Check.due("numbers begin anew", 1, k.look(0, 6));
        Check.due("so the next is 2", 2, k.sys(0, Check.FORK, 0, 0));
    }
}
