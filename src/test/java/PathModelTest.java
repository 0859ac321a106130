import java.util.ArrayList;
import java.util.HashSet;
import java.util.List;
import java.util.Random;
import java.util.Set;

/**
 * Promises 7 and 13 against a model that follows the document's words by recursion: random trees, MOUNTS and
 * UNMOUNTS, then many PATHS. Each NODE's OWNER is its own number, so that LOOK tells where a PATH leads.
 */
public final class PathModelTest {
    private static final int ROUNDS = 3000, CALLS = 60, UP = Check.UP;

    private record Place(int node, Mount by) {
    }

    private record Mount(int id, Place point, int shown) {
    }

    private final Random random;
    private final CageKernel kernel = new CageKernel();
    private final List<int[]> nodes = new ArrayList<>();
    private final List<Mount> mounts = new ArrayList<>();
    private final int root;
    private int made = 0;

    private PathModelTest(long seed) {
        random = new Random(seed);
        nodes.add(new int[] {-1, 0, Check.DIRECTORY});
        int size = 3 + random.nextInt(9);
        for (int tries = 0; nodes.size() < size && tries < 1000; tries++) {
            growNode();
        }
        root = pickDirectory();
        kernel.cage(root, 0, 256, -1, 255);
        kernel.start(0, 255, -1);
    }

    public static void main(String[] args) {
        for (int seed = 0; seed < ROUNDS; seed++) {
            new PathModelTest(seed).round("seed " + seed);
        }
        Check.end();
    }

    private void growNode() {
        int in = random.nextInt(nodes.size());
        int name = 1 + random.nextInt(3);
        if (nodes.get(in)[2] == Check.DIRECTORY && child(in, name) < 0) {
            int kind = random.nextInt(8) == 0 ? Check.FILE : Check.DIRECTORY;
            kernel.node(in, name, kind, nodes.size());
            nodes.add(new int[] {in, name, kind});
        }
    }

    private int pickDirectory() {
        int n = random.nextInt(3) == 0 ? random.nextInt(nodes.size()) : 0;
        return nodes.get(n)[2] == Check.DIRECTORY ? n : 0;
    }

    private void round(String what) {
        for (int i = 0; i < CALLS; i++) {
            int a = randomPath(), b = randomPath();
            int kind = random.nextInt(8);
            if (kind == 0) {
                Check.due(what + " mount " + a + " " + b, mount(a, b), kernel.sys(0, Check.MOUNT, a, b));
            } else if (kind == 1) {
                Check.due(what + " unmount " + a, unmount(a), kernel.sys(0, Check.UNMOUNT, a, 0));
            } else {
                Check.due(what + " look " + a, look(a), kernel.sys(0, Check.LOOK, a, 0));
            }
            Check.due(what + " mounts", mounts.size(), kernel.look(0, 3));
        }
    }

    private int randomPath() {
        int path = 0;
        int names = random.nextInt(8);
        for (int i = 0; i < names; i++) {
            path |= (random.nextInt(3) == 0 ? UP : 1 + random.nextInt(3)) << (4 * i);
        }
        return path;
    }

    private int look(int path) {
        Place place = follow(path);
        if (place == null) {
            return CageKernel.MISSING;
        }
        return place.node() + (isFile(place) ? 256 : 0);
    }

    private int mount(int a, int b) {
        Place point = follow(a), shown = follow(b);
        if (point == null || shown == null) {
            return CageKernel.MISSING;
        }
        if (isFile(point) || isFile(shown)) {
            return CageKernel.KIND;
        }
        if (point.node() == root && point.by() == null) {
            return CageKernel.BUSY;
        }
        if (mounts.size() == 4) {
            return CageKernel.FULL;
        }
        mounts.add(0, new Mount(made++, point, shown.node()));
        return 0;
    }

    private int unmount(int a) {
        Place place = follow(a);
        if (place == null) {
            return CageKernel.MISSING;
        }
        if (place.by() == null || place.by().shown() != place.node()) {
            return CageKernel.NONE;
        }
        for (Mount other : mounts) {
            if (other.point().by() == place.by()) {
                return CageKernel.BUSY;
            }
        }
        mounts.remove(place.by());
        return 0;
    }

    private Place follow(int path) {
        Place place = new Place(root, null);
        for (int i = 0; i < 7 && (path >> (4 * i) & 15) != 0 && place != null; i++) {
            int name = path >> (4 * i) & 15;
            place = name == UP ? up(place) : down(place, name);
        }
        return place;
    }

    private Place up(Place place) {
        if (place.by() == null) {
            return place.node() == root ? place : new Place(nodes.get(place.node())[0], null);
        }
        if (place.node() == place.by().shown()) {
            return up(place.by().point());
        }
        return new Place(nodes.get(place.node())[0], place.by());
    }

    private Place down(Place place, int name) {
        int child = child(place.node(), name);
        return child < 0 ? null : cross(new Place(child, place.by()), new HashSet<>());
    }

    private Place cross(Place place, Set<Integer> taken) {
        for (Mount mount : mounts) {
            if (mount.point().node() == place.node() && taken.add(mount.id())) {
                return cross(new Place(mount.shown(), mount), taken);
            }
        }
        return place;
    }

    private int child(int in, int name) {
        for (int n = 1; n < nodes.size(); n++) {
            if (nodes.get(n)[0] == in && nodes.get(n)[1] == name) {
                return n;
            }
        }
        return -1;
    }

    private boolean isFile(Place place) {
        return nodes.get(place.node())[2] == Check.FILE;
    }
}
