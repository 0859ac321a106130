/** The calls 15 SEND and 16 TAKE. */
public final class Promise07QueueCallsTest {
    public static void main(String[] args) {
        CageKernel k = Check.oneCage(0);
        k.cage(0, 0, 9, 0, 255);
        k.start(1, 0, -1);
        k.sys(0, Check.FORK, 0, 0);
        for (int q : new int[] {-1, 2, Check.LEAST, Check.MOST}) {
            Check.due("send to " + q, CageKernel.KIND, k.sys(0, Check.SEND, q, 5));
            Check.due("take from " + q, CageKernel.KIND, k.sys(0, Check.TAKE, q, 0));
        }
        for (int q = 0; q <= 1; q++) {
            Check.due("empty", CageKernel.AGAIN, k.sys(0, Check.TAKE, q, 0));
            Check.due("first", 0, k.sys(0, Check.SEND, q, Check.LEAST));
            Check.due("second", 0, k.sys(0, Check.SEND, q, 20 + q));
            Check.due("third", 0, k.sys(2, Check.SEND, q, -30 - q));
            Check.due("full", CageKernel.FULL, k.sys(0, Check.SEND, q, 4));
            Check.due("three", 3, k.look(0, 4 + q));
        }
        for (int q = 0; q <= 1; q++) {
            Check.due("first in", Check.LEAST, k.sys(0, Check.TAKE, q, 0));
            Check.due("room again", 0, k.sys(0, Check.SEND, q, 40));
            Check.due("second", 20 + q, k.sys(0, Check.TAKE, q, 0));
            Check.due("third", -30 - q, k.sys(0, Check.TAKE, q, 0));
            Check.due("one", 1, k.look(0, 4 + q));
            Check.due("fourth", 40, k.sys(2, Check.TAKE, q, 0));
            Check.due("empty", CageKernel.AGAIN, k.sys(0, Check.TAKE, q, 0));
            k.sys(0, Check.SEND, q, 1);
            Check.due("other cages have their own", CageKernel.AGAIN, k.sys(1, Check.TAKE, q, 0));
        }
        Check.end();
    }
}
