import java.util.Arrays;

/** Five nodes on a ring that keep versions of values under keys; see README.md. */
public final class VersionRing {
    public static final int NONE = -1;

    private static final int NODES = 5;
    private static final int POSITIONS = 16;
    private static final int KEYS = 32;
    private static final int MOST_VERSIONS = 40;
    private static final int CONTEXTS = 4;

    private static final int WHAT_KEY = 5;
    private static final int WHAT_VALUE = 6;

    private static final int HAS_IT = 1;
    private static final int HAS_HINT = 2;

    private static final int WRONG_INPUT = -1;
    private static final int NOT_UP = -2;
    private static final int NOT_REACHED = -2;
    private static final int NO_ROOM = -3;
    private static final int TOO_FEW_TO_READ = -3;
    private static final int TOO_FEW_TO_WRITE = -4;

    private static final int[] NOTHING_KNOWN = {0, 0, 0, 0, 0};

    private final Ring ring;
    private final Log log;
    private final Node[] nodes;
    private final boolean[] cuts;
    private final Context[] contexts;
    private final int readers;
    private final int writers;

    // The found versions of the latest get(), and how often it brought one to a node.
    private final boolean[] latest;
    private int repairs;

    // The rows below are work space, so that no call makes anything: no call reads what another one left there.
    private final int[] aims;
    private int aimed;
    private int aimedHomes;
    private final boolean[] seen;
    private final boolean[] ones;
    private final boolean[] others;
    private final boolean[] differs;

    public VersionRing(int n, int r, int w) {
        int most = Math.min(1 + (n & 3), 3);
        ring = new Ring(most);
        readers = Math.min(1 + (r & 3), most);
        writers = Math.min(1 + (w & 3), most);
        log = new Log();
        nodes = new Node[NODES];
        for (int node = 0; node < NODES; node++) {
            nodes[node] = new Node(log);
        }
        contexts = new Context[CONTEXTS];
        for (int context = 0; context < CONTEXTS; context++) {
            contexts[context] = new Context();
        }
        cuts = new boolean[NODES * NODES];
        latest = new boolean[MOST_VERSIONS];
        aims = new int[NODES];
        seen = new boolean[MOST_VERSIONS];
        ones = new boolean[MOST_VERSIONS];
        others = new boolean[MOST_VERSIONS];
        differs = new boolean[KEYS];
    }

    public boolean token(int node, int position) {
        if (!isNode(node) || !isPosition(position) || ring.owners[position] != NONE) {
            return false;
        }
        ring.owners[position] = node;
        return true;
    }

    public boolean remove(int position) {
        if (!isPosition(position) || ring.owners[position] == NONE) {
            return false;
        }
        ring.owners[position] = NONE;
        return true;
    }

    public boolean power(int node, boolean up) {
        if (!isNode(node) || nodes[node].up == up) {
            return false;
        }
        nodes[node].up = up;
        return true;
    }

    public boolean cut(int a, int b, boolean on) {
        if (!areTwoNodes(a, b) || cuts[line(a, b)] == on) {
            return false;
        }
        cuts[line(a, b)] = on;
        return true;
    }

    public int put(int c, int key, int value, int context) {
        if (!isNode(c) || !isKey(key) || !mayKnow(context, key)) {
            return WRONG_INPUT;
        }
        if (!nodes[c].up) {
            return NOT_UP;
        }
        if (log.made >= MOST_VERSIONS) {
            return NO_ROOM;
        }
        aim(c, key);
        if (aimed < writers) {
            return TOO_FEW_TO_WRITE;
        }
        int[] known = context == NONE ? NOTHING_KNOWN : contexts[context].clock;
        int version = log.add(key, value, c, known);
        sendToHomes(version);
        leaveHints(c, version);
        return version;
    }

    public int get(int c, int key, int context) {
        if (!isNode(c) || !isKey(key) || !isContext(context)) {
            return WRONG_INPUT;
        }
        if (!nodes[c].up) {
            return NOT_UP;
        }
        aim(c, key);
        if (aimed < readers) {
            return TOO_FEW_TO_READ;
        }
        lookAtTargets(key);
        int number = keepLatest();
        contexts[context].learn(key, latest, log);
        repairs = 0;
        for (int i = 0; i < aimedHomes; i++) {
            repairs += nodes[aims[i]].takeAll(latest);
        }
        return number;
    }

    public int found(int k) {
        int before = 0;
        for (int version = 0; version < log.made; version++) {
            if (latest[version]) {
                if (before == k) {
                    return version;
                }
                before++;
            }
        }
        return NONE;
    }

    public int repaired() {
        return repairs;
    }

    public int handOver(int node) {
        if (!isNode(node)) {
            return WRONG_INPUT;
        }
        if (!nodes[node].up) {
            return NOT_UP;
        }
        int gone = handOverHints(node);
        for (int key = 0; key < KEYS; key++) {
            gone += handOverKey(node, key);
        }
        return gone;
    }

    public int compare(int a, int b) {
        if (!areTwoNodes(a, b)) {
            return WRONG_INPUT;
        }
        if (!reaches(a, b)) {
            return NOT_REACHED;
        }
        for (int key = 0; key < KEYS; key++) {
            differs[key] = share(a, b, key) && differ(a, b, key);
            if (differs[key]) {
                exchange(a, b, key);
            }
        }
        return countComparedParts();
    }

    public int home(int key, int k) {
        if (!isKey(key) || k < 0) {
            return NONE;
        }
        ring.lookUp(key);
        return k < ring.homes ? ring.list[k] : NONE;
    }

    public int targets(int c, int key) {
        if (!isNode(c) || !isKey(key)) {
            return 0;
        }
        aim(c, key);
        return aimed;
    }

    public int holds(int node, int version) {
        if (!isNode(node) || !log.isMade(version)) {
            return NONE;
        }
        int has = nodes[node].has[version] ? HAS_IT : 0;
        int hint = nodes[node].hasHintOf(version) ? HAS_HINT : 0;
        return has + hint;
    }

    public int count(int node, int key) {
        if (!isNode(node) || !isKey(key)) {
            return NONE;
        }
        return nodes[node].writeOut(key, ones);
    }

    public int hints(int node) {
        if (!isNode(node)) {
            return NONE;
        }
        int number = 0;
        for (int version = 0; version < log.made; version++) {
            if (nodes[node].hasHintOf(version)) {
                number++;
            }
        }
        return number;
    }

    public int versions() {
        return log.made;
    }

    public int version(int version, int what) {
        if (!log.isMade(version)) {
            return 0;
        }
        if (what == WHAT_KEY) {
            return log.keys[version];
        }
        if (what == WHAT_VALUE) {
            return log.values[version];
        }
        return isNode(what) ? log.clockCount(version, what) : 0;
    }

    public int context(int context, int node) {
        if (!isContext(context) || !isNode(node) || contexts[context].isEmpty()) {
            return NONE;
        }
        return contexts[context].clock[node];
    }

    private static boolean isNode(int node) {
        return node >= 0 && node < NODES;
    }

    private static boolean areTwoNodes(int a, int b) {
        return isNode(a) && isNode(b) && a != b;
    }

    private static boolean isPosition(int position) {
        return position >= 0 && position < POSITIONS;
    }

    private static boolean isKey(int key) {
        return key >= 0 && key < KEYS;
    }

    private static boolean isContext(int context) {
        return context >= 0 && context < CONTEXTS;
    }

    private boolean mayKnow(int context, int key) {
        if (context == NONE) {
            return true;
        }
        return isContext(context) && (contexts[context].isEmpty() || contexts[context].key == key);
    }

    /** The same place for both directions. */
    private static int line(int a, int b) {
        return Math.min(a, b) * NODES + Math.max(a, b);
    }

    /** No line leads from a node to itself, so that one is never cut. */
    private boolean reaches(int a, int b) {
        return nodes[a].up && nodes[b].up && !cuts[line(a, b)];
    }

    /** Homes stand first in a list, so the targets that are homes are the first of the aims. */
    private void aim(int c, int key) {
        ring.lookUp(key);
        aimed = 0;
        aimedHomes = 0;
        for (int place = 0; place < ring.listed; place++) {
            if (aimed < ring.most && reaches(c, ring.list[place])) {
                aims[aimed] = ring.list[place];
                aimed++;
                if (place < ring.homes) {
                    aimedHomes++;
                }
            }
        }
    }

    private void sendToHomes(int version) {
        for (int i = 0; i < aimedHomes; i++) {
            nodes[aims[i]].take(version);
        }
    }

    private void leaveHints(int c, int version) {
        int next = aimedHomes;
        for (int place = 0; place < ring.homes; place++) {
            int home = ring.list[place];
            if (next < aimed && !reaches(c, home)) {
                nodes[aims[next]].hintFor[version] = home;
                next++;
            }
        }
    }

    private void lookAtTargets(int key) {
        for (int version = 0; version < log.made; version++) {
            seen[version] = log.keys[version] == key && isAtSomeTarget(version);
        }
    }

    private boolean isAtSomeTarget(int version) {
        for (int i = 0; i < aimed; i++) {
            Node target = nodes[aims[i]];
            if (target.has[version] || target.hasHintOf(version)) {
                return true;
            }
        }
        return false;
    }

    private int keepLatest() {
        int number = 0;
        for (int version = 0; version < log.made; version++) {
            latest[version] = seen[version] && !isPassedBySeen(version);
            if (latest[version]) {
                number++;
            }
        }
        return number;
    }

    private boolean isPassedBySeen(int version) {
        for (int other = 0; other < log.made; other++) {
            if (other != version && seen[other] && log.isAtOrBelow(version, other)) {
                return true;
            }
        }
        return false;
    }

    /** A node has at most one hint of a version: hints come from put() alone, and it gives each target one. */
    private int handOverHints(int node) {
        Node giver = nodes[node];
        int gone = 0;
        for (int version = 0; version < log.made; version++) {
            if (giver.hasHintOf(version) && reaches(node, giver.hintFor[version])) {
                nodes[giver.hintFor[version]].take(version);
                giver.hintFor[version] = NONE;
                gone++;
            }
        }
        return gone;
    }

    private int handOverKey(int node, int key) {
        int leaving = nodes[node].writeOut(key, ones);
        if (leaving == 0) {
            return 0;
        }
        ring.lookUp(key);
        if (ring.homes == 0 || ring.hasHome(node) || !reachesAllHomes(node)) {
            return 0;
        }
        for (int place = 0; place < ring.homes; place++) {
            nodes[ring.list[place]].takeAll(ones);
        }
        nodes[node].dropAll(ones);
        return leaving;
    }

    private boolean reachesAllHomes(int node) {
        for (int place = 0; place < ring.homes; place++) {
            if (!reaches(node, ring.list[place])) {
                return false;
            }
        }
        return true;
    }

    private boolean share(int a, int b, int key) {
        ring.lookUp(key);
        return ring.hasHome(a) && ring.hasHome(b);
    }

    private boolean differ(int a, int b, int key) {
        for (int version = 0; version < log.made; version++) {
            if (log.keys[version] == key && nodes[a].has[version] != nodes[b].has[version]) {
                return true;
            }
        }
        return false;
    }

    private void exchange(int a, int b, int key) {
        nodes[a].writeOut(key, ones);
        nodes[b].writeOut(key, others);
        nodes[a].takeAll(others);
        nodes[b].takeAll(ones);
    }

    /**
     * What is exchanged under one key changes nothing about other keys, so the parts can be counted from
     * the keys that differed at first: the whole, and both halves of each part with such a key.
     * The row is folded from single keys up to the whole; it always holds the parts of one size.
     */
    private int countComparedParts() {
        int compared = 1;
        for (int parts = KEYS / 2; parts > 0; parts /= 2) {
            for (int part = 0; part < parts; part++) {
                differs[part] = differs[2 * part] || differs[2 * part + 1];
                if (differs[part]) {
                    compared += 2;
                }
            }
        }
        return compared;
    }

    /** The tokens, and the list of the key that was looked up last. */
    private static final class Ring {
        final int most;
        final int[] owners;
        final int[] list;
        int listed;
        int homes;

        Ring(int most) {
            this.most = most;
            owners = new int[POSITIONS];
            Arrays.fill(owners, NONE);
            list = new int[NODES];
        }

        void lookUp(int key) {
            int start = 5 * key + 3;
            listed = 0;
            for (int step = 0; step < POSITIONS; step++) {
                int node = owners[(start + step) % POSITIONS];
                if (node != NONE && !isAmongFirst(listed, node)) {
                    list[listed] = node;
                    listed++;
                }
            }
            homes = Math.min(most, listed);
        }

        boolean hasHome(int node) {
            return isAmongFirst(homes, node);
        }

        private boolean isAmongFirst(int number, int node) {
            for (int place = 0; place < number; place++) {
                if (list[place] == node) {
                    return true;
                }
            }
            return false;
        }
    }

    /** All versions that were made, by their numbers. */
    private static final class Log {
        final int[] keys;
        final int[] values;
        final int[] authors;
        final int[] clocks;
        int made;

        Log() {
            keys = new int[MOST_VERSIONS];
            values = new int[MOST_VERSIONS];
            authors = new int[MOST_VERSIONS];
            clocks = new int[MOST_VERSIONS * NODES];
        }

        boolean isMade(int version) {
            return version >= 0 && version < made;
        }

        int clockCount(int version, int node) {
            return clocks[version * NODES + node];
        }

        int add(int key, int value, int author, int[] known) {
            int version = made;
            System.arraycopy(known, 0, clocks, version * NODES, NODES);
            clocks[version * NODES + author] = 1 + numberWritten(author, key);
            keys[version] = key;
            values[version] = value;
            authors[version] = author;
            made++;
            return version;
        }

        private int numberWritten(int author, int key) {
            int number = 0;
            for (int version = 0; version < made; version++) {
                if (authors[version] == author && keys[version] == key) {
                    number++;
                }
            }
            return number;
        }

        boolean isAtOrBelow(int version, int other) {
            for (int node = 0; node < NODES; node++) {
                if (clockCount(version, node) > clockCount(other, node)) {
                    return false;
                }
            }
            return true;
        }
    }

    /** What one node has; a row over versions says true for those that are meant. */
    private static final class Node {
        final Log log;
        final boolean[] has;
        final int[] hintFor;
        boolean up;

        Node(Log log) {
            this.log = log;
            has = new boolean[MOST_VERSIONS];
            hintFor = new int[MOST_VERSIONS];
            Arrays.fill(hintFor, NONE);
            up = true;
        }

        boolean hasHintOf(int version) {
            return hintFor[version] != NONE;
        }

        /** Whether the node has the version now and had it not before. */
        boolean take(int version) {
            if (isPassed(version)) {
                return false;
            }
            for (int old = 0; old < log.made; old++) {
                if (hasBeside(old, version) && log.isAtOrBelow(old, version)) {
                    has[old] = false;
                }
            }
            has[version] = true;
            return true;
        }

        private boolean isPassed(int version) {
            for (int old = 0; old < log.made; old++) {
                if (hasBeside(old, version) && log.isAtOrBelow(version, old)) {
                    return true;
                }
            }
            return false;
        }

        private boolean hasBeside(int old, int version) {
            return has[old] && log.keys[old] == log.keys[version];
        }

        /** In the order of the numbers; how many the node did not have before. */
        int takeAll(boolean[] row) {
            int taken = 0;
            for (int version = 0; version < log.made; version++) {
                if (row[version] && take(version)) {
                    taken++;
                }
            }
            return taken;
        }

        void dropAll(boolean[] row) {
            for (int version = 0; version < log.made; version++) {
                if (row[version]) {
                    has[version] = false;
                }
            }
        }

        /** Writes the versions of a key that the node has into the row; how many there are. */
        int writeOut(int key, boolean[] row) {
            int number = 0;
            for (int version = 0; version < log.made; version++) {
                row[version] = has[version] && log.keys[version] == key;
                if (row[version]) {
                    number++;
                }
            }
            return number;
        }
    }

    /** A key and a clock; without a key it is empty, and its clock is all 0. */
    private static final class Context {
        final int[] clock;
        int key;

        Context() {
            clock = new int[NODES];
            key = NONE;
        }

        boolean isEmpty() {
            return key == NONE;
        }

        void learn(int newKey, boolean[] row, Log log) {
            key = newKey;
            Arrays.fill(clock, 0);
            for (int version = 0; version < log.made; version++) {
                if (row[version]) {
                    rise(version, log);
                }
            }
        }

        private void rise(int version, Log log) {
            for (int node = 0; node < NODES; node++) {
                clock[node] = Math.max(clock[node], log.clockCount(version, node));
            }
        }
    }
}
