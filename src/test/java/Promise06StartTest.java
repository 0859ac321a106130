/** start: a cage gets its INIT. */
public final class Promise06StartTest {
    public static void main(String[] args) {
        ordinary();
        refusals();
        order();
        full();
        anew();
        Check.end();
    }

    private static void ordinary() {
        CageKernel k = new CageKernel();
        k.cage(0, 0, 9, -1, 255);
        k.cage(0, 0, 9, -1, 255);
        Check.giveAlways(k, 0, 2);
        Check.due("without a filter", 0, k.start(1, 173, -1));
        Check.due("with a filter", 1, k.start(0, 0, 0));
        int[] first = {1, 1, 1, 0, -1, 173, 173, 0, 173, 0, 0};
        int[] second = {1, 0, 1, 0, -1, 0, 0, 0, 0, 1, 0};
        for (int what = 0; what < first.length; what++) {
            Check.due("process 0, " + what, first[what], k.process(0, what));
            Check.due("process 1, " + what, second[what], k.process(1, what));
        }
        Check.due("started", 1, k.look(1, 0));
        Check.due("numbers", 1, k.look(1, 6));
        Check.due("live", 2, k.count(2));
    }

    private static void refusals() {
        CageKernel k = new CageKernel();
        k.cage(0, 0, 9, -1, 255);
        for (int c : new int[] {-1, 1, 4, Check.LEAST, Check.MOST}) {
            Check.due("cage " + c, CageKernel.REFUSED, k.start(c, 0, -1));
        }
        for (int powers : new int[] {-1, 256, Check.LEAST, Check.MOST}) {
            Check.due("powers " + powers, CageKernel.REFUSED, k.start(0, powers, -1));
        }
        for (int f : new int[] {-2, 0, 3, 4, Check.LEAST, Check.MOST}) {
            Check.due("filter " + f, CageKernel.REFUSED, k.start(0, 255, f));
        }
        k.step(0, 7, 2, 0);
        k.step(0, 0, 0, 0);
        Check.due("the last is no give", CageKernel.REFUSED, k.start(0, 255, 0));
        k.step(0, 6, 0, 1);
        k.step(0, 7, 2, 0);
        Check.due("the last is passed over", CageKernel.REFUSED, k.start(0, 255, 0));
        Check.due("none was made", 0, k.count(2));
        Check.due("not started", 0, k.look(0, 0));
    }

    private static void order() {
        CageKernel k = new CageKernel();
        k.cage(0, 0, 9, -1, 0x1f);
        k.start(0, 255, -1);
        Check.due("refused before busy (powers)", CageKernel.REFUSED, k.start(0, 256, -1));
        Check.due("refused before busy (filter)", CageKernel.REFUSED, k.start(0, 255, 0));
        Check.due("busy before quota", CageKernel.BUSY, k.start(0, 255, -1));
        k.cage(0, 0, 9, 0, 255);
        Check.due("quota of the outer cage", CageKernel.QUOTA, k.start(1, 255, -1));
        Check.due("not started", 0, k.look(1, 0));
        k.kill(0);
        Check.due("its room is free again", 0, k.start(1, 255, -1));
        Check.due("and used by the cage in it", CageKernel.QUOTA, k.start(0, 255, -1));
    }

    private static void full() {
        CageKernel k = Check.oneCage(255);
        k.cage(0, 0, 9, -1, 255);
        k.cage(0, 0, 9, -1, 0);
        for (int n = 2; n <= 15; n++) {
            Check.due("fork " + n, n, k.sys(0, Check.FORK, 0, 0));
        }
        Check.due("the limit of 15", CageKernel.QUOTA, k.sys(0, Check.FORK, 0, 0));
        Check.due("the last process", 15, k.start(1, 255, -1));
        Check.due("full before quota", CageKernel.FULL, k.start(2, 255, -1));
        Check.due("busy before full", CageKernel.BUSY, k.start(1, 255, -1));
        k.kill(7);
        Check.due("a zombie is not free", CageKernel.FULL, k.start(2, 255, -1));
        k.sys(0, Check.WAIT, 0, 0);
        Check.due("quota when one is free", CageKernel.QUOTA, k.start(2, 255, -1));
    }

    private static void anew() {
        CageKernel k = Check.oneCage(255);
        Check.giveAlways(k, 0, 2);
        k.sys(0, Check.POWERS, 2, 7);
        k.sys(0, Check.FILTER, 0, 0);
        k.sys(0, Check.FORK, 0, 0);
        k.sys(0, Check.USER, 3, 0);
        k.sys(0, Check.EXIT, 9, 0);
        Check.due("again", 0, k.start(0, 40, -1));
        int[] due = {1, 0, 1, 0, -1, 40, 40, 0, 40, 0, 0};
        for (int what = 0; what < due.length; what++) {
            Check.due("anew, " + what, due[what], k.process(0, what));
        }
        Check.due("numbers begin anew", 1, k.look(0, 6));
        Check.due("so the next is 2", 2, k.sys(0, Check.FORK, 0, 0));
    }
}
