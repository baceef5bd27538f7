/** Rings that many tests begin with, and numbers of what is not there. */
final class Rings {
    static final int LOW = Integer.MIN_VALUE;
    static final int HIGH = Integer.MAX_VALUE;

    private Rings() {
    }

    static int[] noNodes() {
        return new int[] {LOW, -2, -1, 5, 6, HIGH};
    }

    static int[] noPositions() {
        return new int[] {LOW, -2, -1, 16, 17, HIGH};
    }

    static int[] noKeys() {
        return new int[] {LOW, -2, -1, 32, 33, HIGH};
    }

    /** Where a put() needs a context or -1, -1 is none of the wrong ones: see noPutContexts(). */
    static int[] noContexts() {
        return new int[] {LOW, -2, -1, 4, 5, HIGH};
    }

    static int[] noPutContexts() {
        return new int[] {LOW, -3, -2, 4, 5, HIGH};
    }

    /** The list of keys 0 and 16 (position 3) is 0, 1, 2, 3, 4; that of keys 1 and 17 (position 8) is 3, 4, 0, 1, 2. */
    static VersionRing five(int n, int r, int w) {
        VersionRing ring = new VersionRing(n, r, w);
        for (int node = 0; node < 5; node++) {
            ring.token(node, 3 + 2 * node);
        }
        return ring;
    }

    /** Node 0 alone has tokens, so it is the one home of every key. */
    static VersionRing one() {
        VersionRing ring = new VersionRing(2, 0, 0);
        ring.token(0, 3);
        return ring;
    }

    /** Versions 0 and 1 of key 0 side by side: node 0 has the one, node 1 the other, node 2 both. */
    static VersionRing split() {
        VersionRing ring = five(2, 0, 0);
        ring.cut(0, 1, true);
        for (int node = 0; node < 2; node++) {
            cutFrom(ring, node, 3, 4);
        }
        ring.put(0, 0, 10, -1);
        ring.put(1, 0, 11, -1);
        return ring;
    }

    /** Nodes 0 and 1 are the homes of all keys, and node 1 misses a version of each of these keys. */
    static VersionRing missing(int... keys) {
        VersionRing ring = new VersionRing(1, 0, 0);
        ring.token(0, 0);
        ring.token(1, 1);
        ring.power(1, false);
        for (int key : keys) {
            ring.put(0, key, key, -1);
        }
        ring.power(1, true);
        return ring;
    }

    /** All 40 versions are made, the i-th under key i mod 32, by node 0. */
    static VersionRing full(int n, int r, int w) {
        VersionRing ring = five(n, r, w);
        for (int i = 0; i < 40; i++) {
            ring.put(0, i % 32, i, -1);
        }
        return ring;
    }

    static void cutFrom(VersionRing ring, int node, int... others) {
        for (int other : others) {
            ring.cut(node, other, true);
        }
    }

    static void turn(VersionRing ring, boolean up, int... nodes) {
        for (int node : nodes) {
            ring.power(node, up);
        }
    }
}
