/** The calls 9 USER and 10 POWERS. */
public final class Promise07PowerCallsTest {
    private static final int DENIED = CageKernel.DENIED, KIND = CageKernel.KIND;

    public static void main(String[] args) {
        user();
        userAndPowers();
        powersKinds();
        powersEffective();
        powersPermitted();
        powersInherited();
        powersBound();
        Check.end();
    }

    private static void user() {
        CageKernel k = new CageKernel();
        k.cage(0, 10, 5, -1, 255);
        k.start(0, 255, -1);
        for (int user : new int[] {-1, 5, 10, 255, Check.LEAST, Check.MOST}) {
            Check.due("no user " + user, DENIED, k.sys(0, Check.USER, user, 0));
        }
        Check.due("no change", 0, k.process(0, 3));
        k.sys(0, Check.POWERS, 2, 4);
        Check.due("the last user", 0, k.sys(0, Check.USER, 4, 0));
        Check.due("its user", 4, k.process(0, 3));
        Check.due("another with the power users", 0, k.sys(0, Check.USER, 2, 0));
        Check.due("back to 0", 0, k.sys(0, Check.USER, 0, 0));
        Check.due("with 0 powers stay", 4, k.process(0, 6));
        k.sys(0, Check.POWERS, 0, 0);
        Check.due("another without it", DENIED, k.sys(0, Check.USER, 1, 0));
        Check.due("no user, without it", DENIED, k.sys(0, Check.USER, 5, 0));
        Check.due("its own without it", 0, k.sys(0, Check.USER, 0, 0));
    }

    private static void userAndPowers() {
        CageKernel k = Check.oneCage(0x1f);
        k.sys(0, Check.POWERS, 2, 0x1c);
        k.sys(0, Check.POWERS, 1, 0x17);
        k.sys(0, Check.POWERS, 0, 0x07);
        Check.due("user", 0, k.sys(0, Check.USER, 3, 0));
        powersAre(k, "what both had", 0x14, 0x14, 0x1c, 0x1f);
        k.sys(0, Check.POWERS, 2, 0x10);
        Check.due("its own user, not 0", 0, k.sys(0, Check.USER, 3, 0));
        powersAre(k, "again", 0x10, 0x10, 0x10, 0x1f);

        CageKernel z = Check.oneCage(0x1f);
        z.sys(0, Check.POWERS, 0, 0x05);
        Check.due("user 0", 0, z.sys(0, Check.USER, 0, 0));
        powersAre(z, "user 0 keeps all", 0x05, 0x1f, 0, 0x1f);
    }

    private static void powersKinds() {
        CageKernel k = Check.oneCage(255);
        for (int set : new int[] {-1, 4, Check.LEAST, Check.MOST}) {
            Check.due("set " + set, KIND, k.sys(0, Check.POWERS, set, 0));
        }
        for (int set = 0; set <= 3; set++) {
            for (int powers : new int[] {-1, 256, Check.LEAST, Check.MOST}) {
                Check.due("powers " + powers, KIND, k.sys(0, Check.POWERS, set, powers));
            }
        }
        powersAre(k, "no change", 255, 255, 0, 255);
        CageKernel none = Check.oneCage(0);
        Check.due("kind before denied", KIND, none.sys(0, Check.POWERS, 4, 1));
        for (int set = 0; set <= 3; set++) {
            Check.due("nothing is always allowed", 0, none.sys(0, Check.POWERS, set, 0));
            Check.due("something is not", DENIED, none.sys(0, Check.POWERS, set, 128));
        }
    }

    private static void powersEffective() {
        CageKernel k = Check.oneCage(0x0f);
        Check.due("less", 0, k.sys(0, Check.POWERS, 0, 0x02));
        powersAre(k, "effective alone", 0x02, 0x0f, 0, 0x0f);
        Check.due("back to what is permitted", 0, k.sys(0, Check.POWERS, 0, 0x0f));
        Check.due("more than permitted", DENIED, k.sys(0, Check.POWERS, 0, 0x1f));
        k.sys(0, Check.POWERS, 3, 0);
        Check.due("the bound does not matter", 0, k.sys(0, Check.POWERS, 0, 0x0c));
        powersAre(k, "effective", 0x0c, 0x0f, 0, 0);
    }

    private static void powersPermitted() {
        CageKernel k = Check.oneCage(0x0f);
        k.sys(0, Check.POWERS, 0, 0x06);
        k.sys(0, Check.POWERS, 2, 0x0f);
        Check.due("less", 0, k.sys(0, Check.POWERS, 1, 0x0c));
        powersAre(k, "effective loses", 0x04, 0x0c, 0x0f, 0x0f);
        Check.due("no way back, though inherited has it", DENIED, k.sys(0, Check.POWERS, 1, 0x0e));
        Check.due("nor for effective", DENIED, k.sys(0, Check.POWERS, 0, 0x02));
        Check.due("same again", 0, k.sys(0, Check.POWERS, 1, 0x0c));
        powersAre(k, "effective gains nothing", 0x04, 0x0c, 0x0f, 0x0f);
    }

    private static void powersInherited() {
        CageKernel k = Check.oneCage(0x0f);
        Check.due("from permitted", 0, k.sys(0, Check.POWERS, 2, 0x03));
        k.sys(0, Check.POWERS, 1, 0x0c);
        Check.due("from permitted or inherited", 0, k.sys(0, Check.POWERS, 2, 0x0e));
        powersAre(k, "inherited", 0x0c, 0x0c, 0x0e, 0x0f);
        Check.due("in the bound only", DENIED, k.sys(0, Check.POWERS, 2, 0x01));
        k.sys(0, Check.POWERS, 3, 0x05);
        Check.due("not in the bound, though inherited", DENIED, k.sys(0, Check.POWERS, 2, 0x02));
        Check.due("not in the bound, though permitted", DENIED, k.sys(0, Check.POWERS, 2, 0x08));
        Check.due("in both", 0, k.sys(0, Check.POWERS, 2, 0x04));
        powersAre(k, "inherited", 0x0c, 0x0c, 0x04, 0x05);
    }

    private static void powersBound() {
        CageKernel k = Check.oneCage(0x0f);
        k.sys(0, Check.POWERS, 2, 0x0f);
        Check.due("less", 0, k.sys(0, Check.POWERS, 3, 0x06));
        powersAre(k, "the others stay", 0x0f, 0x0f, 0x0f, 0x06);
        Check.due("no way back", DENIED, k.sys(0, Check.POWERS, 3, 0x0e));
        k.sys(0, Check.POWERS, 1, 0);
        Check.due("permitted does not matter", 0, k.sys(0, Check.POWERS, 3, 0x04));
    }

    private static void powersAre(CageKernel k, String what, int effective, int permitted, int inherited, int bound) {
        Check.due(what + ": effective", effective, k.process(0, 5));
        Check.due(what + ": permitted", permitted, k.process(0, 6));
        Check.due(what + ": inherited", inherited, k.process(0, 7));
        Check.due(what + ": bound", bound, k.process(0, 8));
    }
}
