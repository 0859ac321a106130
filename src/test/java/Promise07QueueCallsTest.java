/** The calls 15 SEND and 16 TAKE. A method for each of the document's sentences. */
public final class Promise07QueueCallsTest {
    public static void main(String[] args) {
        noQueue();
        full();
        empty();
        firstInFirstOut();
        eachCageHasItsOwn();
        emptyAfterInit();
        Check.end();
    }

    private static void noQueue() {
        Check.sentence(7, "15 SEND a b: KIND if a is not 0..1; 16 TAKE a: KIND");
        CageKernel k = Check.oneCage(0);
        Check.outside("send to an empty queue", 0, 1, CageKernel.KIND, q -> k.sys(0, Check.SEND, q, 5));
        Check.outside("take from an empty queue", 0, 1, CageKernel.KIND, q -> k.sys(0, Check.TAKE, q, 0));
        for (int n = 0; n < 3; n++) {
            k.sys(0, Check.SEND, 0, 5);
            k.sys(0, Check.SEND, 1, 5);
        }
        Check.outside("send to a full queue", 0, 1, CageKernel.KIND, q -> k.sys(0, Check.SEND, q, 5));
        Check.outside("take from a full queue", 0, 1, CageKernel.KIND, q -> k.sys(0, Check.TAKE, q, 0));
        Check.due("three in queue 0", 3, k.look(0, 4));
        Check.due("three in queue 1", 3, k.look(0, 5));
    }

    private static void full() {
        Check.sentence(7, "15 SEND a b: FULL if there are 3; two queues of at most 3 ints");
        CageKernel k = Check.oneCage(0);
        for (int q = 0; q <= 1; q++) {
            for (int n = 1; n <= 3; n++) {
                Check.due("send " + n, 0, k.sys(0, Check.SEND, q, n));
                Check.due("so many", n, k.look(0, 4 + q));
            }
            Check.due("full", CageKernel.FULL, k.sys(0, Check.SEND, q, 4));
            Check.due("three", 3, k.look(0, 4 + q));
            Check.due("the first", 1, k.sys(0, Check.TAKE, q, 0));
            Check.due("room again", 0, k.sys(0, Check.SEND, q, 5));
            Check.due("full again", CageKernel.FULL, k.sys(0, Check.SEND, q, 6));
        }
        int[] due = {2, 3, 5, CageKernel.AGAIN};
        for (int want : due) {
            Check.due("what was refused is not in queue 0", want, k.sys(0, Check.TAKE, 0, 0));
            Check.due("what was refused is not in queue 1", want, k.sys(0, Check.TAKE, 1, 0));
        }
    }

    private static void empty() {
        Check.sentence(7, "16 TAKE a: AGAIN if it is empty");
        CageKernel k = Check.oneCage(0);
        for (int q = 0; q <= 1; q++) {
            Check.due("at first", CageKernel.AGAIN, k.sys(0, Check.TAKE, q, 0));
            k.sys(0, Check.SEND, q, 7);
            Check.due("the other one", CageKernel.AGAIN, k.sys(0, Check.TAKE, 1 - q, 0));
            Check.due("one int", 7, k.sys(0, Check.TAKE, q, 0));
            Check.due("empty again", CageKernel.AGAIN, k.sys(0, Check.TAKE, q, 0));
            Check.due("still empty", 0, k.look(0, 4 + q));
        }
    }

    private static void firstInFirstOut() {
        Check.sentence(7, "b goes to the back of queue a: 0; the first int");
        CageKernel k = Check.oneCage(0);
        k.sys(0, Check.FORK, 0, 0);
        int[] sent = {Check.LEAST, Check.MOST, -1, 0, CageKernel.AGAIN};
        for (int i = 0; i < 2; i++) {
            k.sys(0, Check.SEND, 0, sent[i]);
            k.sys(1, Check.SEND, 1, sent[i] + 1);
        }
        for (int i = 2; i < sent.length; i++) {
            Check.due("to the back", 0, k.sys(1, Check.SEND, 0, sent[i]));
            Check.due("the first", sent[i - 2], k.sys(0, Check.TAKE, 0, 0));
            Check.due("to the back of the other", 0, k.sys(0, Check.SEND, 1, sent[i] + 1));
            Check.due("the first of the other", sent[i - 2] + 1, k.sys(1, Check.TAKE, 1, 0));
        }
    }

    private static void eachCageHasItsOwn() {
        Check.sentence(7, "CAGES 0..3 have .. two queues");
        CageKernel k = Check.oneCage(0);
        k.cage(0, 0, 9, 0, 255);
        k.start(1, 0, -1);
        for (int q = 0; q <= 1; q++) {
            k.sys(0, Check.SEND, q, 1);
            Check.due("others take nothing", CageKernel.AGAIN, k.sys(1, Check.TAKE, q, 0));
            Check.due("it takes its own", 1, k.sys(0, Check.TAKE, q, 0));
        }
    }

    private static void emptyAfterInit() {
        Check.sentence(7, "the cage is not started any more, its queues are empty");
        CageKernel k = Check.oneCage(0);
        for (int n = 1; n <= 3; n++) {
            k.sys(0, Check.SEND, 0, n);
            k.sys(0, Check.SEND, 1, n);
        }
        k.sys(0, Check.EXIT, 0, 0);
        k.start(0, 0, -1);
        for (int q = 0; q <= 1; q++) {
            Check.due("empty", CageKernel.AGAIN, k.sys(0, Check.TAKE, q, 0));
            Check.due("send", 0, k.sys(0, Check.SEND, q, 9));
            Check.due("the first", 9, k.sys(0, Check.TAKE, q, 0));
        }
    }
}
