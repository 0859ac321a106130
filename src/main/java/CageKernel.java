/**
 * A kernel with cages over one tree of files. The document's promises say what each call answers;
 * all rows are made in the constructor and used again, so that no call makes an object.
 */
public final class CageKernel {
    public static final int REFUSED = -1;
    public static final int MISSING = -2, KIND = -3, DENIED = -4, FULL = -5, QUOTA = -6, BUSY = -7, EXISTS = -8,
            NONE = -9, AGAIN = -10, KILLED = -11, FILTERED = -12, UNKNOWN = -13;

    private static final int NODE_ROOM = 32, TASK_ROOM = 16, CAGE_ROOM = 4, FILTER_ROOM = 4;
    private static final int MOUNT_ROOM = 4, QUEUE_ROOM = 3, STEP_ROOM = 10, HELD_ROOM = 3;

    private static final int DIRECTORY = 0, FILE = 1;
    private static final int HOST_USERS = 256, NO_NUMBER = 255, FILE_MARK = 256;

    private static final int NAME_BITS = 4, NAME_MASK = 15, PATH_NAMES = 7, PATH_BITS = 28, UP = 15;

    private static final int OWN = 1, KILL = 2, USERS = 4, MOUNT = 8, ALL_POWERS = 255;
    private static final int EFFECTIVE = 0, PERMITTED = 1, INHERITED = 2, BOUND = 3, POWER_SETS = 4;

    private static final int FREE = 0, LIVE = 1, ZOMBIE = 2;
    private static final int KILL_CODE = 137, CODE_MASK = 255, CODE_RANGE = 256;

    private static final int OP_CALL = 0, OP_FIRST = 1, OP_SECOND = 2, OP_AND = 3, OP_SAME = 4, OP_ABOVE = 5,
            OP_PASS = 6, OP_GIVE = 7;
    private static final int GIVE_KILLED = 0, GIVE_FILTERED = 1, GIVE_LET_IN = 2;

    private final Tree tree;
    private final Cage[] cages;
    private final Task[] tasks;
    private final Filter[] filters;
    private final Walk walk;
    private final Walk secondWalk;
    private int cagesMade;
    private int callsMade;
    private int callsStopped;

    public CageKernel() {
        tree = new Tree();
        cages = new Cage[CAGE_ROOM];
        for (int i = 0; i < CAGE_ROOM; i++) {
            cages[i] = new Cage(i);
        }
        tasks = new Task[TASK_ROOM];
        for (int i = 0; i < TASK_ROOM; i++) {
            tasks[i] = new Task(i);
        }
        filters = new Filter[FILTER_ROOM];
        for (int i = 0; i < FILTER_ROOM; i++) {
            filters[i] = new Filter();
        }
        walk = new Walk();
        secondWalk = new Walk();
    }

    // ---- calls from outside ----

    public int node(int in, int name, int kind, int owner) {
        Node directory = tree.at(in);
        if (directory == null || directory.kind != DIRECTORY) {
            return REFUSED;
        }
        if (name < 1 || name >= UP || !isKind(kind) || owner < 0 || owner >= HOST_USERS) {
            return REFUSED;
        }
        if (tree.childOf(directory, name) != null) {
            return EXISTS;
        }
        Node made = tree.firstFree();
        if (made == null) {
            return FULL;
        }
        made.settle(directory, name, kind, owner, null);
        return made.number;
    }

    public int cage(int root, int low, int count, int outer, int limits) {
        Node top = tree.at(root);
        if (top == null || top.kind != DIRECTORY || low < 0 || low >= HOST_USERS) {
            return REFUSED;
        }
        if (count < 1 || count > HOST_USERS - low || limits < 0 || limits > 255) {
            return REFUSED;
        }
        if (outer != -1 && cageAt(outer) == null) {
            return REFUSED;
        }
        if (cagesMade >= CAGE_ROOM) {
            return FULL;
        }
        Cage made = cages[cagesMade];
        cagesMade++;
        made.root = top;
        made.low = low;
        made.users = count;
        made.outer = cageAt(outer);
        made.nodeLimit = limits & 15;
        made.taskLimit = limits >> 4;
        return made.number;
    }

    public int step(int f, int op, int a, int b) {
        Filter filter = filterAt(f);
        if (filter == null || op < OP_CALL || op > OP_GIVE) {
            return REFUSED;
        }
        if (passesOver(op) && (b < 0 || b >= STEP_ROOM)) {
            return REFUSED;
        }
        if (op == OP_GIVE && (a < GIVE_KILLED || a > GIVE_LET_IN)) {
            return REFUSED;
        }
        if (isHeld(filter)) {
            return BUSY;
        }
        if (filter.size >= STEP_ROOM) {
            return FULL;
        }
        filter.append(op, a, b);
        return filter.size;
    }

    public int wipe(int f) {
        Filter filter = filterAt(f);
        if (filter == null) {
            return REFUSED;
        }
        if (isHeld(filter)) {
            return BUSY;
        }
        int had = filter.size;
        filter.size = 0;
        return had;
    }

    public int start(int c, int powers, int f) {
        Cage cage = cageAt(c);
        Filter filter = filterAt(f);
        if (cage == null || !isPowers(powers)) {
            return REFUSED;
        }
        if (f != -1 && (filter == null || !filter.isGood())) {
            return REFUSED;
        }
        if (cage.init != null) {
            return BUSY;
        }
        Task init = firstFreeTask();
        if (init == null) {
            return FULL;
        }
        if (isTaskQuotaReached(cage)) {
            return QUOTA;
        }
        cage.init = init;
        cage.numbersGiven = 0;
        init.settle(cage, null, 0);
        init.powers[EFFECTIVE] = powers;
        init.powers[PERMITTED] = powers;
        init.powers[INHERITED] = 0;
        init.powers[BOUND] = powers;
        if (filter != null) {
            init.hold(filter);
        }
        return init.number;
    }

    public int sys(int p, int call, int a, int b) {
        Task task = liveTask(p);
        if (task == null) {
            return REFUSED;
        }
        callsMade++;
        int verdict = task.verdict(call, a, b);
        if (verdict == GIVE_KILLED) {
            callsStopped++;
            finish(task, KILL_CODE);
            return KILLED;
        }
        if (verdict == GIVE_FILTERED) {
            callsStopped++;
            return FILTERED;
        }
        return perform(task, call, a, b);
    }

    public boolean kill(int p) {
        Task task = liveTask(p);
        if (task == null) {
            return false;
        }
        finish(task, KILL_CODE);
        return true;
    }

    public int process(int p, int what) {
        Task task = taskAt(p);
        if (task == null) {
            return REFUSED;
        }
        switch (what) {
            case 0: return task.state;
            case 1: return task.cage.number;
            case 2: return task.numberInCage;
            case 3: return task.user;
            case 4: return task.parent == null ? -1 : task.parent.number;
            case 5: return task.powers[EFFECTIVE];
            case 6: return task.powers[PERMITTED];
            case 7: return task.powers[INHERITED];
            case 8: return task.powers[BOUND];
            case 9: return task.heldCount;
            case 10: return task.state == ZOMBIE ? task.code : 0;
            default: return REFUSED;
        }
    }

    public int file(int n, int what) {
        Node node = tree.at(n);
        if (node == null) {
            return REFUSED;
        }
        switch (what) {
            case 0: return node.kind;
            case 1: return node.name;
            case 2: return node.parent == null ? -1 : node.parent.number;
            case 3: return node.owner;
            case 4: return node.kind == FILE ? node.value : tree.sizeOf(node);
            case 5: return node.maker == null ? -1 : node.maker.number;
            default: return REFUSED;
        }
    }

    public int look(int c, int what) {
        Cage cage = cageAt(c);
        if (cage == null) {
            return REFUSED;
        }
        switch (what) {
            case 0: return cage.init == null ? 0 : 1;
            case 1: return tree.usedBy(cage);
            case 2: return tasksUsedBy(cage);
            case 3: return cage.mountCount;
            case 4: return cage.firstQueue.size;
            case 5: return cage.secondQueue.size;
            case 6: return cage.numbersGiven;
            case 7: return cage.outer == null ? -1 : cage.outer.number;
            default: return REFUSED;
        }
    }

    public int count(int what) {
        switch (what) {
            case 0: return tree.total();
            case 1: return cagesMade;
            case 2: return tasksIn(LIVE);
            case 3: return tasksIn(ZOMBIE);
            case 4: return callsMade;
            case 5: return callsStopped;
            default: return REFUSED;
        }
    }

    // ---- system calls, by number ----

    private int perform(Task task, int call, int a, int b) {
        switch (call) {
            case 0: return task.numberInCage;
            case 1: return callFork(task);
            case 2: return callExit(task, a);
            case 3: return callWait(task);
            case 4: return callRead(task, a);
            case 5: return callWrite(task, a, b);
            case 6: return callMake(task, a, b);
            case 7: return callRemove(task, a);
            case 8: return callGive(task, a, b);
            case 9: return callUser(task, a);
            case 10: return callPowers(task, a, b);
            case 11: return callKill(task, a);
            case 12: return callMount(task, a, b);
            case 13: return callUnmount(task, a);
            case 14: return callFilter(task, a);
            case 15: return callSend(task, a, b);
            case 16: return callTake(task, a);
            case 17: return callLook(task, a);
            default: return UNKNOWN;
        }
    }

    private int callFork(Task task) {
        Task child = firstFreeTask();
        if (child == null) {
            return FULL;
        }
        if (isTaskQuotaReached(task.cage)) {
            return QUOTA;
        }
        child.settle(task.cage, task, task.user);
        child.inherit(task);
        return child.numberInCage;
    }

    private int callExit(Task task, int code) {
        finish(task, code & CODE_MASK);
        return 0;
    }

    private int callWait(Task task) {
        boolean hasChild = false;
        for (int i = 0; i < TASK_ROOM; i++) {
            Task child = tasks[i];
            if (child.state == FREE || child.parent != task) {
                continue;
            }
            hasChild = true;
            if (child.state == ZOMBIE) {
                int answer = CODE_RANGE * child.numberInCage + child.code;
                child.release();
                return answer;
            }
        }
        return hasChild ? AGAIN : NONE;
    }

    private int callRead(Task task, int path) {
        if (!walk.follow(tree, task.cage, path)) {
            return MISSING;
        }
        return walk.node.kind == DIRECTORY ? KIND : walk.node.value;
    }

    private int callWrite(Task task, int path, int value) {
        if (!walk.follow(tree, task.cage, path)) {
            return MISSING;
        }
        if (walk.node.kind == DIRECTORY) {
            return KIND;
        }
        if (!task.mayChange(walk.node)) {
            return DENIED;
        }
        walk.node.value = value;
        return 0;
    }

    private int callMake(Task task, int path, int kind) {
        int names = namesIn(path);
        if (names == 0) {
            return MISSING;
        }
        int name = nameAt(path, names - 1);
        if (name == UP || !walk.followSome(tree, task.cage, path, names - 1)) {
            return MISSING;
        }
        Node directory = walk.node;
        if (directory.kind != DIRECTORY || !isKind(kind)) {
            return KIND;
        }
        if (tree.childOf(directory, name) != null) {
            return EXISTS;
        }
        if (!task.mayChange(directory)) {
            return DENIED;
        }
        Node made = tree.firstFree();
        if (made == null) {
            return FULL;
        }
        if (isNodeQuotaReached(task.cage)) {
            return QUOTA;
        }
        made.settle(directory, name, kind, task.hostUser(), task.cage);
        return made.number;
    }

    private int callRemove(Task task, int path) {
        if (!walk.follow(tree, task.cage, path)) {
            return MISSING;
        }
        Node node = walk.node;
        if (node.parent == null || isInUse(node) || tree.sizeOf(node) > 0) {
            return BUSY;
        }
        if (!task.mayChange(node.parent)) {
            return DENIED;
        }
        node.release();
        return 0;
    }

    private int callGive(Task task, int path, int user) {
        if (!walk.follow(tree, task.cage, path)) {
            return MISSING;
        }
        Cage cage = task.cage;
        if (!task.hasPower(OWN) || !cage.hasNumberFor(walk.node.owner) || !cage.hasUser(user)) {
            return DENIED;
        }
        walk.node.owner = cage.low + user;
        return 0;
    }

    private int callUser(Task task, int user) {
        if (!task.cage.hasUser(user) || (user != task.user && !task.hasPower(USERS))) {
            return DENIED;
        }
        task.user = user;
        if (user != 0) {
            int left = task.powers[PERMITTED] & task.powers[INHERITED];
            task.powers[PERMITTED] = left;
            task.powers[EFFECTIVE] = left;
        }
        return 0;
    }

    private int callPowers(Task task, int set, int powers) {
        if (set < 0 || set >= POWER_SETS || !isPowers(powers)) {
            return KIND;
        }
        if ((powers & ~task.allowedIn(set)) != 0) {
            return DENIED;
        }
        task.powers[set] = powers;
        if (set == PERMITTED) {
            task.powers[EFFECTIVE] &= powers;
        }
        return 0;
    }

    private int callKill(Task task, int number) {
        Task victim = liveTaskIn(task.cage, number);
        if (victim == null) {
            return MISSING;
        }
        if (number == 1 || (victim.user != task.user && !task.hasPower(KILL))) {
            return DENIED;
        }
        finish(victim, KILL_CODE);
        return 0;
    }

    private int callMount(Task task, int point, int shown) {
        Cage cage = task.cage;
        if (!walk.follow(tree, cage, point) || !secondWalk.follow(tree, cage, shown)) {
            return MISSING;
        }
        if (walk.node.kind != DIRECTORY || secondWalk.node.kind != DIRECTORY) {
            return KIND;
        }
        if (!task.hasPower(MOUNT)) {
            return DENIED;
        }
        if (walk.isAtRoot(cage)) {
            return BUSY;
        }
        if (cage.mountCount >= MOUNT_ROOM) {
            return FULL;
        }
        cage.addMount(walk.node, walk.mount, secondWalk.node);
        return 0;
    }

    private int callUnmount(Task task, int path) {
        if (!walk.follow(tree, task.cage, path)) {
            return MISSING;
        }
        if (!walk.isAtShown()) {
            return NONE;
        }
        if (!task.hasPower(MOUNT)) {
            return DENIED;
        }
        if (task.cage.hasPointBy(walk.mount)) {
            return BUSY;
        }
        task.cage.dropMount(walk.mount);
        return 0;
    }

    private int callFilter(Task task, int f) {
        Filter filter = filterAt(f);
        if (filter == null || !filter.isGood()) {
            return KIND;
        }
        if (task.heldCount >= HELD_ROOM) {
            return FULL;
        }
        task.hold(filter);
        return 0;
    }

    private int callSend(Task task, int q, int value) {
        Queue queue = task.cage.queueAt(q);
        if (queue == null) {
            return KIND;
        }
        if (queue.size >= QUEUE_ROOM) {
            return FULL;
        }
        queue.put(value);
        return 0;
    }

    private int callTake(Task task, int q) {
        Queue queue = task.cage.queueAt(q);
        if (queue == null) {
            return KIND;
        }
        return queue.size == 0 ? AGAIN : queue.takeFirst();
    }

    private int callLook(Task task, int path) {
        if (!walk.follow(tree, task.cage, path)) {
            return MISSING;
        }
        Node node = walk.node;
        int number = task.cage.hasNumberFor(node.owner) ? node.owner - task.cage.low : NO_NUMBER;
        return node.kind == FILE ? number + FILE_MARK : number;
    }

    // ---- the ending of PROCESSES ----

    private void finish(Task task, int code) {
        if (task.parent == null) {
            closeCage(task.cage);
            return;
        }
        task.state = ZOMBIE;
        task.code = code;
        for (int i = 0; i < TASK_ROOM; i++) {
            if (tasks[i].parent == task) {
                tasks[i].parent = task.cage.init;
            }
        }
    }

    /** The others end and are gone at once when INIT ends: nobody can see them as ZOMBIES in between. */
    private void closeCage(Cage cage) {
        for (int i = 0; i < TASK_ROOM; i++) {
            if (tasks[i].cage == cage) {
                tasks[i].release();
            }
        }
        cage.close();
    }

    // ---- what the calls ask of the rows ----

    private Cage cageAt(int c) {
        return c >= 0 && c < cagesMade && c < CAGE_ROOM ? cages[c] : null;
    }

    private Filter filterAt(int f) {
        return f >= 0 && f < FILTER_ROOM ? filters[f] : null;
    }

    private Task taskAt(int p) {
        return p >= 0 && p < TASK_ROOM && tasks[p].state != FREE ? tasks[p] : null;
    }

    private Task liveTask(int p) {
        Task task = taskAt(p);
        return task != null && task.state == LIVE ? task : null;
    }

    private Task liveTaskIn(Cage cage, int number) {
        for (int i = 0; i < TASK_ROOM; i++) {
            Task task = tasks[i];
            if (task.state == LIVE && task.cage == cage && task.numberInCage == number) {
                return task;
            }
        }
        return null;
    }

    private Task firstFreeTask() {
        for (int i = 0; i < TASK_ROOM; i++) {
            if (tasks[i].state == FREE) {
                return tasks[i];
            }
        }
        return null;
    }

    private int tasksIn(int state) {
        int found = 0;
        for (int i = 0; i < TASK_ROOM; i++) {
            if (tasks[i].state == state) {
                found++;
            }
        }
        return found;
    }

    private int tasksUsedBy(Cage cage) {
        int used = 0;
        for (int i = 0; i < TASK_ROOM; i++) {
            if (tasks[i].state != FREE && isWithin(tasks[i].cage, cage)) {
                used++;
            }
        }
        return used;
    }

    private boolean isTaskQuotaReached(Cage cage) {
        for (Cage around = cage; around != null; around = around.outer) {
            if (tasksUsedBy(around) >= around.taskLimit) {
                return true;
            }
        }
        return false;
    }

    private boolean isNodeQuotaReached(Cage cage) {
        for (Cage around = cage; around != null; around = around.outer) {
            if (tree.usedBy(around) >= around.nodeLimit) {
                return true;
            }
        }
        return false;
    }

    private boolean isHeld(Filter filter) {
        for (int i = 0; i < TASK_ROOM; i++) {
            if (tasks[i].holds(filter)) {
                return true;
            }
        }
        return false;
    }

    private boolean isInUse(Node node) {
        for (int i = 0; i < cagesMade && i < CAGE_ROOM; i++) {
            if (cages[i].root == node || cages[i].hasMountOf(node)) {
                return true;
            }
        }
        return false;
    }

    private static boolean isWithin(Cage inner, Cage cage) {
        for (Cage around = inner; around != null; around = around.outer) {
            if (around == cage) {
                return true;
            }
        }
        return false;
    }

    private static boolean isKind(int kind) {
        return kind == DIRECTORY || kind == FILE;
    }

    private static boolean isPowers(int powers) {
        return powers >= 0 && powers <= ALL_POWERS;
    }

    private static boolean passesOver(int op) {
        return op == OP_SAME || op == OP_ABOVE || op == OP_PASS;
    }

    private static int nameAt(int path, int place) {
        return (path >>> (NAME_BITS * place)) & NAME_MASK;
    }

    private static int namesIn(int path) {
        int names = 0;
        while (names < PATH_NAMES && nameAt(path, names) != 0) {
            names++;
        }
        return names;
    }

    // ---- the tree of files ----

    /** A NODE; one that is not there is a row that waits to be used. */
    private static final class Node {
        final int number;
        boolean there;
        int kind;
        int name;
        int owner;
        int value;
        Node parent;
        Cage maker;

        Node(int number) {
            this.number = number;
        }

        void settle(Node parent, int name, int kind, int owner, Cage maker) {
            this.there = true;
            this.parent = parent;
            this.name = name;
            this.kind = kind;
            this.owner = owner;
            this.maker = maker;
            this.value = 0;
        }

        void release() {
            there = false;
            parent = null;
            maker = null;
        }
    }

    private static final class Tree {
        final Node[] nodes;

        Tree() {
            nodes = new Node[NODE_ROOM];
            for (int i = 0; i < NODE_ROOM; i++) {
                nodes[i] = new Node(i);
            }
            nodes[0].settle(null, 0, DIRECTORY, 0, null);
        }

        Node at(int n) {
            return n >= 0 && n < NODE_ROOM && nodes[n].there ? nodes[n] : null;
        }

        Node firstFree() {
            for (int i = 0; i < NODE_ROOM; i++) {
                if (!nodes[i].there) {
                    return nodes[i];
                }
            }
            return null;
        }

        Node childOf(Node directory, int name) {
            for (int i = 0; i < NODE_ROOM; i++) {
                if (nodes[i].there && nodes[i].parent == directory && nodes[i].name == name) {
                    return nodes[i];
                }
            }
            return null;
        }

        int sizeOf(Node directory) {
            int size = 0;
            for (int i = 0; i < NODE_ROOM; i++) {
                if (nodes[i].there && nodes[i].parent == directory) {
                    size++;
                }
            }
            return size;
        }

        int usedBy(Cage cage) {
            int used = 0;
            for (int i = 0; i < NODE_ROOM; i++) {
                if (nodes[i].there && isWithin(nodes[i].maker, cage)) {
                    used++;
                }
            }
            return used;
        }

        int total() {
            int total = 0;
            for (int i = 0; i < NODE_ROOM; i++) {
                if (nodes[i].there) {
                    total++;
                }
            }
            return total;
        }
    }

    // ---- cages, with their MOUNTS and queues ----

    private static final class Mount {
        Node point;
        /** By which MOUNT the POINT was come to when this one was made: UP goes on from there. */
        Mount pointBy;
        Node shown;
    }

    private static final class Queue {
        final int[] values;
        int size;

        Queue() {
            values = new int[QUEUE_ROOM];
        }

        void put(int value) {
            if (size < QUEUE_ROOM) {
                values[size] = value;
                size++;
            }
        }

        int takeFirst() {
            int first = values[0];
            for (int i = 1; i < QUEUE_ROOM; i++) {
                values[i - 1] = values[i];
            }
            if (size > 0) {
                size--;
            }
            return first;
        }
    }

    private static final class Cage {
        final int number;
        Node root;
        int low;
        int users;
        int nodeLimit;
        int taskLimit;
        Cage outer;
        /** The PROCESS that the cage was started with; null while it is not started. */
        Task init;
        int numbersGiven;
        /** The MOUNTS that are there come first, the latest one last. */
        final Mount[] mounts;
        int mountCount;
        final Queue firstQueue;
        final Queue secondQueue;

        Cage(int number) {
            this.number = number;
            mounts = new Mount[MOUNT_ROOM];
            for (int i = 0; i < MOUNT_ROOM; i++) {
                mounts[i] = new Mount();
            }
            firstQueue = new Queue();
            secondQueue = new Queue();
        }

        boolean hasUser(int user) {
            return user >= 0 && user < users;
        }

        boolean hasNumberFor(int hostUser) {
            return hasUser(hostUser - low);
        }

        Queue queueAt(int q) {
            if (q == 0) {
                return firstQueue;
            }
            return q == 1 ? secondQueue : null;
        }

        void addMount(Node point, Mount pointBy, Node shown) {
            if (mountCount < MOUNT_ROOM) {
                Mount mount = mounts[mountCount];
                mount.point = point;
                mount.pointBy = pointBy;
                mount.shown = shown;
                mountCount++;
            }
        }

        /** The row of the dropped MOUNT goes to the end, so that the others keep their order and their rows. */
        void dropMount(Mount mount) {
            for (int i = 0; i < mountCount && i < MOUNT_ROOM - 1; i++) {
                if (mounts[i] == mount) {
                    mounts[i] = mounts[i + 1];
                    mounts[i + 1] = mount;
                }
            }
            if (mountCount > 0) {
                mountCount--;
            }
        }

        /** The place of the latest MOUNT with that POINT that is not among those taken (a bit for each); -1 if none. */
        int latestMountAt(Node point, int taken) {
            for (int i = MOUNT_ROOM - 1; i >= 0; i--) {
                if (i < mountCount && mounts[i].point == point && (taken & (1 << i)) == 0) {
                    return i;
                }
            }
            return -1;
        }

        boolean hasPointBy(Mount mount) {
            for (int i = 0; i < mountCount && i < MOUNT_ROOM; i++) {
                if (mounts[i].pointBy == mount) {
                    return true;
                }
            }
            return false;
        }

        boolean hasMountOf(Node node) {
            for (int i = 0; i < mountCount && i < MOUNT_ROOM; i++) {
                if (mounts[i].point == node || mounts[i].shown == node) {
                    return true;
                }
            }
            return false;
        }

        void close() {
            init = null;
            mountCount = 0;
            firstQueue.size = 0;
            secondQueue.size = 0;
        }
    }

    /** Follows a PATH; then it tells the NODE that it leads to and the MOUNT by which that was come to. */
    private static final class Walk {
        Node node;
        Mount mount;

        boolean follow(Tree tree, Cage cage, int path) {
            return followSome(tree, cage, path, namesIn(path));
        }

        boolean followSome(Tree tree, Cage cage, int path, int names) {
            node = cage.root;
            mount = null;
            if ((path >>> PATH_BITS) != 0) {
                return false;
            }
            for (int i = 0; i < names && i < PATH_NAMES; i++) {
                int name = nameAt(path, i);
                if (name == UP) {
                    goUp(cage);
                    continue;
                }
                Node child = tree.childOf(node, name);
                if (child == null) {
                    return false;
                }
                node = child;
                cross(cage);
            }
            return true;
        }

        boolean isAtRoot(Cage cage) {
            return mount == null && node == cage.root;
        }

        boolean isAtShown() {
            return mount != null && node == mount.shown;
        }

        /** Goes on to what MOUNTS show, each at most once; with none the MOUNT by which one came stays. */
        private void cross(Cage cage) {
            int taken = 0;
            for (int i = 0; i < MOUNT_ROOM; i++) {
                int latest = cage.latestMountAt(node, taken);
                if (latest < 0) {
                    return;
                }
                taken |= 1 << latest;
                mount = cage.mounts[latest];
                node = mount.shown;
            }
        }

        private void goUp(Cage cage) {
            // A POINT was come to by an older MOUNT or none, so this ends after the cage's MOUNTS at the latest.
            for (int i = 0; i < MOUNT_ROOM && isAtShown(); i++) {
                node = mount.point;
                mount = mount.pointBy;
            }
            if (!isAtRoot(cage) && node.parent != null) {
                node = node.parent;
            }
        }
    }

    // ---- FILTERS and PROCESSES ----

    private static final class Filter {
        final int[] ops;
        final int[] firsts;
        final int[] seconds;
        int size;

        Filter() {
            ops = new int[STEP_ROOM];
            firsts = new int[STEP_ROOM];
            seconds = new int[STEP_ROOM];
        }

        void append(int op, int a, int b) {
            if (size < STEP_ROOM) {
                ops[size] = op;
                firsts[size] = a;
                seconds[size] = b;
                size++;
            }
        }

        boolean isGood() {
            if (size < 1 || size > STEP_ROOM || ops[size - 1] != OP_GIVE) {
                return false;
            }
            for (int i = 0; i < size; i++) {
                if (passesOver(ops[i]) && i + seconds[i] >= size - 1) {
                    return false;
                }
            }
            return true;
        }

        /** What a GOOD FILTER gives; it always comes to a GIVE, since every step leads to a later one. */
        int judge(int call, int a, int b) {
            int x = 0;
            for (int i = 0; i < size && i < STEP_ROOM; i++) {
                switch (ops[i]) {
                    case OP_CALL: x = call; break;
                    case OP_FIRST: x = a; break;
                    case OP_SECOND: x = b; break;
                    case OP_AND: x &= firsts[i]; break;
                    case OP_GIVE: return firsts[i];
                    default: i += passedOver(i, x); break;
                }
            }
            return GIVE_KILLED;
        }

        private int passedOver(int i, int x) {
            boolean passes = ops[i] == OP_PASS
                    || (ops[i] == OP_SAME && x == firsts[i])
                    || (ops[i] == OP_ABOVE && x > firsts[i]);
            return passes ? seconds[i] : 0;
        }
    }

    /** A PROCESS, or a FREE row for one. */
    private static final class Task {
        final int number;
        int state;
        Cage cage;
        int numberInCage;
        int user;
        Task parent;
        final int[] powers;
        final Filter[] held;
        int heldCount;
        int code;

        Task(int number) {
            this.number = number;
            state = FREE;
            powers = new int[POWER_SETS];
            held = new Filter[HELD_ROOM];
        }

        void settle(Cage cage, Task parent, int user) {
            cage.numbersGiven++;
            this.state = LIVE;
            this.cage = cage;
            this.numberInCage = cage.numbersGiven;
            this.parent = parent;
            this.user = user;
            this.heldCount = 0;
            this.code = 0;
        }

        void inherit(Task from) {
            for (int i = 0; i < POWER_SETS; i++) {
                powers[i] = from.powers[i];
            }
            for (int i = 0; i < from.heldCount && i < HELD_ROOM; i++) {
                hold(from.held[i]);
            }
        }

        void release() {
            state = FREE;
            cage = null;
            parent = null;
            heldCount = 0;
        }

        void hold(Filter filter) {
            if (heldCount < HELD_ROOM) {
                held[heldCount] = filter;
                heldCount++;
            }
        }

        boolean holds(Filter filter) {
            for (int i = 0; i < heldCount && i < HELD_ROOM; i++) {
                if (held[i] == filter) {
                    return true;
                }
            }
            return false;
        }

        int verdict(int call, int a, int b) {
            int least = GIVE_LET_IN;
            for (int i = 0; i < heldCount && i < HELD_ROOM; i++) {
                least = Math.min(least, held[i].judge(call, a, b));
            }
            return least;
        }

        int hostUser() {
            return cage.low + user;
        }

        boolean hasPower(int power) {
            return (powers[EFFECTIVE] & power) != 0;
        }

        boolean mayChange(Node node) {
            return node.owner == hostUser() || (hasPower(OWN) && cage.hasNumberFor(node.owner));
        }

        /** Every power that the set may be given with the call POWERS. */
        int allowedIn(int set) {
            switch (set) {
                case INHERITED: return (powers[PERMITTED] | powers[INHERITED]) & powers[BOUND];
                case BOUND: return powers[BOUND];
                default: return powers[PERMITTED];
            }
        }
    }
}
