/** The calls 9 USER and 10 POWERS. A method for each of the document's sentences. */
public final class Promise07PowerCallsTest {
    private static final int DENIED = CageKernel.DENIED, KIND = CageKernel.KIND;
    private static final int EFFECTIVE = 0, PERMITTED = 1, INHERITED = 2, BOUND = 3;

    public static void main(String[] args) {
        noUser();
        anotherUser();
        userZeroKeepsPowers();
        otherUsersLosePowers();
        noSet();
        noPowers();
        kindBeforeDenied();
        effective();
        permitted();
        effectiveLosesWithPermitted();
        inheritedFromPermittedOrInherited();
        inheritedWithinBound();
        bound();
        everyPower();
        Check.end();
    }

    private static int set(CageKernel k, int set, int powers) {
        return k.sys(0, Check.POWERS, set, powers);
    }

    private static void powersAre(CageKernel k, String what, int effective, int permitted, int inherited, int bound) {
        Check.due(what + ": effective", effective, k.process(0, 5));
        Check.due(what + ": permitted", permitted, k.process(0, 6));
        Check.due(what + ": inherited", inherited, k.process(0, 7));
        Check.due(what + ": bound", bound, k.process(0, 8));
    }

    private static void noUser() {
        Check.sentence(7, "9 USER a: DENIED if a is no user of the cage");
        CageKernel k = new CageKernel();
        k.cage(0, 10, 5, -1, 255);
        k.start(0, 255, -1);
        String before = Check.seen(k);
        Check.outside("user", 0, 4, DENIED, user -> k.sys(0, Check.USER, user, 0));
        Check.due("a host user is none", DENIED, k.sys(0, Check.USER, 10, 0));
        Check.unchanged(before, k);
        Check.due("the last user", 0, k.sys(0, Check.USER, 4, 0));
        Check.due("its user", 4, k.process(0, 3));
        CageKernel all = Check.oneCage(255);
        Check.outside("user of 256", 0, 255, DENIED, user -> all.sys(0, Check.USER, user, 0));
        Check.due("the last of all users", 0, all.sys(0, Check.USER, 255, 0));
    }

    private static void anotherUser() {
        Check.sentence(7, "9 USER a: DENIED if .. another one than its own, and USERS is not in EFFECTIVE");
        CageKernel k = Check.oneCage(255);
        set(k, INHERITED, 255);
        set(k, EFFECTIVE, 251);
        Check.due("another without the power", DENIED, k.sys(0, Check.USER, 1, 0));
        Check.due("its own without the power", 0, k.sys(0, Check.USER, 0, 0));
        set(k, EFFECTIVE, 4);
        Check.due("another with the power alone", 0, k.sys(0, Check.USER, 1, 0));
        Check.due("its user", 1, k.process(0, 3));
        set(k, EFFECTIVE, 251);
        Check.due("0 is another one now", DENIED, k.sys(0, Check.USER, 0, 0));
        Check.due("its own", 0, k.sys(0, Check.USER, 1, 0));
        set(k, EFFECTIVE, 4);
        Check.due("back to 0 with the power", 0, k.sys(0, Check.USER, 0, 0));
        Check.due("its user", 0, k.process(0, 3));
    }

    private static void userZeroKeepsPowers() {
        Check.sentence(7, "9 USER a: if a is not 0");
        CageKernel k = Check.oneCage(0x1f);
        set(k, EFFECTIVE, 0x05);
        Check.due("user 0", 0, k.sys(0, Check.USER, 0, 0));
        powersAre(k, "user 0 keeps all", 0x05, 0x1f, 0, 0x1f);
        set(k, INHERITED, 0x1f);
        k.sys(0, Check.USER, 3, 0);
        set(k, EFFECTIVE, 0x04);
        set(k, INHERITED, 0x01);
        Check.due("back to user 0", 0, k.sys(0, Check.USER, 0, 0));
        powersAre(k, "user 0 keeps all", 0x04, 0x1f, 0x01, 0x1f);
    }

    private static void otherUsersLosePowers() {
        Check.sentence(7, "if a is not 0, PERMITTED and EFFECTIVE are what both PERMITTED and INHERITED had: 0");
        CageKernel k = Check.oneCage(0x1f);
        set(k, INHERITED, 0x1c);
        set(k, PERMITTED, 0x17);
        set(k, EFFECTIVE, 0x07);
        Check.due("user", 0, k.sys(0, Check.USER, 3, 0));
        powersAre(k, "what both had", 0x14, 0x14, 0x1c, 0x1f);
        set(k, INHERITED, 0x10);
        Check.due("its own user, not 0", 0, k.sys(0, Check.USER, 3, 0));
        powersAre(k, "again", 0x10, 0x10, 0x10, 0x1f);
        CageKernel none = Check.oneCage(255);
        Check.due("with nothing inherited", 0, none.sys(0, Check.USER, 1, 0));
        powersAre(none, "none is left", 0, 0, 0, 255);
    }

    private static void noSet() {
        Check.sentence(7, "10 POWERS a b: KIND if a is not 0..3");
        CageKernel k = Check.oneCage(255);
        Check.outside("set", 0, 3, KIND, set -> set(k, set, 0));
        powersAre(k, "no change", 255, 255, 0, 255);
    }

    private static void noPowers() {
        Check.sentence(7, "10 POWERS a b: KIND if .. b not 0..255");
        CageKernel k = Check.oneCage(255);
        for (int set = 0; set <= 3; set++) {
            int changed = set;
            Check.outside("set " + set + ", powers", 0, 255, KIND, powers -> set(k, changed, powers));
        }
        powersAre(k, "no change", 255, 255, 0, 255);
        Check.due("all powers", 0, set(k, INHERITED, 255));
        powersAre(k, "inherited has all", 255, 255, 255, 255);
        for (int set = 0; set <= 3; set++) {
            Check.due("no powers", 0, set(k, set, 0));
        }
        powersAre(k, "none has any", 0, 0, 0, 0);
    }

    private static void kindBeforeDenied() {
        Check.sentence(7, "10 POWERS a b: KIND if ..; DENIED if ..");
        CageKernel k = Check.oneCage(0);
        Check.each("set", KIND, set -> set(k, set, 1), -1, 4);
        for (int set = 0; set <= 3; set++) {
            Check.due("powers", KIND, set(k, set, 256));
            Check.due("denied", DENIED, set(k, set, 1));
        }
    }

    private static void effective() {
        Check.sentence(7, "10 POWERS a b: DENIED if b has something that PERMITTED has not (a 0 ..)");
        CageKernel k = Check.oneCage(0x0f);
        Check.due("less", 0, set(k, EFFECTIVE, 0x02));
        powersAre(k, "effective alone", 0x02, 0x0f, 0, 0x0f);
        Check.due("all that is permitted", 0, set(k, EFFECTIVE, 0x0f));
        Check.due("one more than permitted", DENIED, set(k, EFFECTIVE, 0x1f));
        Check.due("that one alone", DENIED, set(k, EFFECTIVE, 0x10));
        set(k, BOUND, 0);
        Check.due("the bound does not matter", 0, set(k, EFFECTIVE, 0x0c));
        powersAre(k, "effective", 0x0c, 0x0f, 0, 0);
    }

    private static void permitted() {
        Check.sentence(7, "10 POWERS a b: DENIED if b has something that PERMITTED has not (.. or 1)");
        CageKernel k = Check.oneCage(0x0f);
        set(k, INHERITED, 0x0f);
        Check.due("as it is", 0, set(k, PERMITTED, 0x0f));
        Check.due("one more", DENIED, set(k, PERMITTED, 0x1f));
        Check.due("less", 0, set(k, PERMITTED, 0x0c));
        Check.due("no way back, though inherited has it", DENIED, set(k, PERMITTED, 0x0e));
        Check.due("nor for effective", DENIED, set(k, EFFECTIVE, 0x02));
        powersAre(k, "permitted", 0x0c, 0x0c, 0x0f, 0x0f);
        set(k, BOUND, 0);
        Check.due("the bound does not matter", 0, set(k, PERMITTED, 0x08));
    }

    private static void effectiveLosesWithPermitted() {
        Check.sentence(7, "with PERMITTED EFFECTIVE loses what that has not: 0");
        CageKernel k = Check.oneCage(0x0f);
        set(k, EFFECTIVE, 0x06);
        Check.due("less", 0, set(k, PERMITTED, 0x0c));
        powersAre(k, "effective loses", 0x04, 0x0c, 0, 0x0f);
        Check.due("the same again", 0, set(k, PERMITTED, 0x0c));
        powersAre(k, "effective gains nothing", 0x04, 0x0c, 0, 0x0f);
        Check.due("nothing", 0, set(k, PERMITTED, 0));
        powersAre(k, "effective has nothing", 0, 0, 0, 0x0f);
    }

    private static void inheritedFromPermittedOrInherited() {
        Check.sentence(7, "10 POWERS a b: DENIED if b has something .. that is not in PERMITTED or INHERITED .. (2)");
        CageKernel k = Check.oneCage(0x0f);
        Check.due("from permitted", 0, set(k, INHERITED, 0x03));
        set(k, PERMITTED, 0x0c);
        Check.due("from permitted or inherited", 0, set(k, INHERITED, 0x0e));
        powersAre(k, "inherited", 0x0c, 0x0c, 0x0e, 0x0f);
        Check.due("in the bound only", DENIED, set(k, INHERITED, 0x01));
        Check.due("in none", DENIED, set(k, INHERITED, 0x10));
        set(k, EFFECTIVE, 0);
        Check.due("effective does not matter", 0, set(k, INHERITED, 0x0c));
    }

    private static void inheritedWithinBound() {
        Check.sentence(7, "10 POWERS a b: DENIED if b has something .. not in BOUND (2)");
        CageKernel k = Check.oneCage(0x0f);
        set(k, INHERITED, 0x0f);
        set(k, PERMITTED, 0x0c);
        set(k, BOUND, 0x05);
        Check.due("not in the bound, though inherited", DENIED, set(k, INHERITED, 0x02));
        Check.due("not in the bound, though permitted", DENIED, set(k, INHERITED, 0x08));
        Check.due("as it is, which the bound has not", DENIED, set(k, INHERITED, 0x0f));
        powersAre(k, "inherited stays", 0x0c, 0x0c, 0x0f, 0x05);
        Check.due("in both", 0, set(k, INHERITED, 0x05));
        powersAre(k, "inherited", 0x0c, 0x0c, 0x05, 0x05);
    }

    private static void bound() {
        Check.sentence(7, "10 POWERS a b: DENIED if b has something .. not in BOUND (3)");
        CageKernel k = Check.oneCage(0x0f);
        set(k, INHERITED, 0x0f);
        Check.due("as it is", 0, set(k, BOUND, 0x0f));
        Check.due("one more", DENIED, set(k, BOUND, 0x1f));
        Check.due("less", 0, set(k, BOUND, 0x06));
        powersAre(k, "the others stay", 0x0f, 0x0f, 0x0f, 0x06);
        Check.due("no way back, though permitted has it", DENIED, set(k, BOUND, 0x0e));
        set(k, PERMITTED, 0);
        Check.due("permitted does not matter", 0, set(k, BOUND, 0x04));
    }

    private static void everyPower() {
        Check.sentence(7, "POWERS are sums of 1 OWN, 2 KILL, 4 USERS, 8 MOUNT, 16, 32, 64, 128.");
        for (int power = 1; power <= 128; power *= 2) {
            CageKernel k = Check.oneCage(255 - power);
            for (int set = 0; set <= 3; set++) {
                Check.due("power " + power + " is not there", DENIED, set(k, set, power));
                Check.due("all others are", 0, set(k, set, 255 - power));
            }
        }
    }
}
