import java.util.Random;

/**
 * No call throws or fails to end, whatever its arguments are; what the host sees stays in range and agrees with
 * itself; and the same calls always give the same answers.
 */
public final class AnyArgumentsTest {
    private static final int ROUNDS = 600, CALLS = 300;
    private static final int[] ODD = {-1, 0, 1, 2, 15, 16, 31, 32, 255, 256, Check.LEAST, Check.MOST, 1 << 28};

    public static void main(String[] args) {
        for (int seed = 0; seed < ROUNDS; seed++) {
            CageKernel k = new CageKernel();
            int answers = run(k, new Random(seed));
            Check.due("seed " + seed + ", again", answers, run(new CageKernel(), new Random(seed)));
            agrees("seed " + seed, k);
        }
        Check.end();
    }

    private static int run(CageKernel k, Random random) {
        int answers = 0;
        k.cage(0, 0, 200, -1, 255);
        k.start(0, 255, -1);
        for (int i = 2; i < CALLS; i++) {
            answers = 31 * answers + oneCall(k, random);
        }
        return answers;
    }

    private static int oneCall(CageKernel k, Random r) {
        switch (r.nextInt(16)) {
            case 0: return k.node(any(r, 8), any(r, 15), any(r, 2), any(r, 256));
            case 1: return k.cage(any(r, 8), any(r, 40), any(r, 200), any(r, 5) - 1, any(r, 256));
            case 2: return k.step(any(r, 4), any(r, 8), any(r, 3), any(r, 4));
            case 3: return r.nextInt(4) == 0 ? k.wipe(any(r, 4)) : k.step(any(r, 4), 7, 2, 0);
            case 4: return k.start(any(r, 4), any(r, 256), any(r, 5) - 1);
            case 5: return r.nextInt(8) == 0 && k.kill(any(r, 16)) ? 1 : 0;
            case 6: return k.process(any(r, 16), any(r, 11));
            case 7: return k.file(any(r, 32), any(r, 6));
            case 8: return k.look(any(r, 4), any(r, 8));
            case 9: return k.count(any(r, 6));
            case 10: return k.sys(any(r, 4), Check.POWERS, any(r, 4), any(r, 256));
            default: return k.sys(any(r, 4), any(r, 18), path(r), r.nextBoolean() ? path(r) : any(r, 3));
        }
    }

    private static int any(Random random, int below) {
        return random.nextInt(24) == 0 ? ODD[random.nextInt(ODD.length)] : random.nextInt(below);
    }

    private static int path(Random random) {
        int path = any(random, 4);
        for (int i = 1; i < 4 && random.nextBoolean(); i++) {
            path |= (random.nextInt(4) == 0 ? Check.UP : 1 + random.nextInt(3)) << (4 * i);
        }
        return path;
    }

    private static void agrees(String what, CageKernel k) {
        int nodes = 0, inDirectories = 0;
        for (int n = 0; n < 32; n++) {
            if (k.file(n, 0) != CageKernel.REFUSED) {
                nodes++;
                inDirectories += k.file(n, 0) == Check.DIRECTORY ? k.file(n, 4) : 0;
            }
        }
        Check.due(what + ": nodes", nodes, k.count(0));
        Check.due(what + ": all but node 0 are in a directory", nodes - 1, inDirectories);
        int live = 0, zombies = 0;
        for (int p = 0; p < 16; p++) {
            live += k.process(p, 0) == 1 ? 1 : 0;
            zombies += k.process(p, 0) == 2 ? 1 : 0;
        }
        Check.due(what + ": live", live, k.count(2));
        Check.due(what + ": zombies", zombies, k.count(3));
        int used = 0;
        for (int c = 0; c < k.count(1); c++) {
            used += k.look(c, 7) == -1 ? k.look(c, 2) : 0;
            boolean within = k.look(c, 1) <= 15 && k.look(c, 2) <= 15 && k.look(c, 3) <= 4;
            Check.due(what + ": cage " + c + " is within its limits", true, within);
        }
        Check.due(what + ": outermost cages use all processes", live + zombies, used);
    }
}
