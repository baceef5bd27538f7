/** Each sentence under 'Terms' (and 'What it is') that names a boundary case has a test of its own here. */
public final class TermsEdgeTest {
    private final Due due = new Due("TermsEdgeTest");

    public static void main(String[] args) {
        TermsEdgeTest test = new TermsEdgeTest();
        test.use512Calls();
        test.nodesAreUpAtFirst();
        test.downNodeKeepsWhatItHas();
        test.linesAreNotCutAtFirst();
        test.reachingNeedsBothUpAndTheLine();
        test.upNodeReachesItself();
        test.positionsAre0To15();
        test.keysAre0To31();
        test.positionOfEachKey();
        test.listGoesUpwards();
        test.listHas0Behind15();
        test.listGoesOnceRound();
        test.listHasNodeWhereMetFirst();
        test.homesAreFirstNUpOrDown();
        test.homesAreAllIfFewer();
        test.versionsAreNumberedFrom0();
        test.versionsAre40AtMost();
        test.lastOf40IsBroughtLikeOthers();
        test.equalCountsAreAtOrBelow();
        test.oneCountAboveIsNotAtOrBelow();
        test.takeNothingBesideNewer();
        test.takeNothingThatItHas();
        test.takeLetsOlderOnesLeave();
        test.takeLeavesOtherKeysAlone();
        test.targetsAreFirstNReached();
        test.targetsAreAllIfFewer();
        test.standInsForMissedHomesInOrder();
        test.fewerStandInsThanMissedHomes();
        test.contextsAreEmptyAtFirst();
        test.partsAreHalves();
        test.sharedKeysNeedBothAsHomes();
        test.agreeIfSameVersions();
        test.due.end();
    }

    private void use512Calls() {
        due.about("An object is used for at most 512 calls after it has been made");
        VersionRing ring = Rings.full(2, 0, 0);
        int callsOfFull = 5 + 40;
        for (int call = callsOfFull + 1; call <= 505; call += 3) {
            due.is("get", 1, ring.get(1, 0, 0));
            due.yes("power off", ring.power(4, false));
            due.yes("power on", ring.power(4, true));
        }
        due.is("call 508", -3, ring.put(0, 0, 1, 0));
        due.is("call 509", 1, ring.compare(0, 1));
        due.is("call 510", 2, ring.context(0, 0));
        due.is("call 511", 32, ring.found(0));
        due.is("call 512", 40, ring.versions());
    }

    private void nodesAreUpAtFirst() {
        due.about("NODES 0 .. 4 are UP (at first) or DOWN");
        VersionRing ring = new VersionRing(2, 0, 0);
        for (int node = 0; node < 5; node++) {
            due.no("power(" + node + ", true)", ring.power(node, true));
            due.is("handOver(" + node + ")", 0, ring.handOver(node));
        }
        due.is("handOver(-1)", -1, ring.handOver(-1));
        due.is("handOver(5)", -1, ring.handOver(5));
    }

    private void downNodeKeepsWhatItHas() {
        due.about("what a node has stays while it is down");
        VersionRing ring = Rings.five(2, 0, 0);
        ring.power(0, false);
        ring.put(1, 0, 10, -1);
        Rings.turn(ring, false, 1, 2, 3, 4);
        due.holds("all are down", ring, 0, 0, 1, 1, 2, 0);
        due.is("count(1, 0)", 1, ring.count(1, 0));
        due.is("hints(3)", 1, ring.hints(3));
        Rings.turn(ring, true, 0, 1, 2, 3, 4);
        due.holds("all are up again", ring, 0, 0, 1, 1, 2, 0);
        due.is("handOver(3)", 1, ring.handOver(3));
    }

    private void linesAreNotCutAtFirst() {
        due.about("Between two nodes there is a line, CUT or not (at first not).");
        VersionRing ring = new VersionRing(2, 0, 0);
        for (int a = 0; a < 5; a++) {
            for (int b = 0; b < 5; b++) {
                due.is("compare(" + a + ", " + b + ")", a == b ? -1 : 1, ring.compare(a, b));
                due.no("cut(" + a + ", " + b + ", false)", ring.cut(a, b, false));
            }
        }
    }

    private void reachingNeedsBothUpAndTheLine() {
        due.about("A node REACHES another one if both are up and their line is not cut");
        for (int a = 0; a < 5; a++) {
            for (int b = 0; b < 5; b++) {
                if (a != b) {
                    checkReaching(a, b);
                }
            }
        }
    }

    private void checkReaching(int a, int b) {
        String call = "compare(" + a + ", " + b + ")";
        VersionRing ring = new VersionRing(2, 0, 0);
        ring.power(a, false);
        due.is(call + " with the one down", -2, ring.compare(a, b));
        ring.power(b, false);
        due.is(call + " with both down", -2, ring.compare(a, b));
        ring.power(a, true);
        due.is(call + " with the other one down", -2, ring.compare(a, b));
        ring.power(b, true);
        due.is(call + " with both up again", 1, ring.compare(a, b));
        ring.cut(a, b, true);
        due.is(call + " with the line cut", -2, ring.compare(a, b));
        for (int c = 0; c < 5; c++) {
            if (c != a && c != b) {
                due.is(call + " cut, but not compare with " + c, 2, ring.compare(a, c) + ring.compare(c, b));
            }
        }
        ring.cut(a, b, false);
        due.is(call + " with the line mended", 1, ring.compare(a, b));
    }

    private void upNodeReachesItself() {
        due.about("an up node reaches itself");
        for (int node = 0; node < 5; node++) {
            VersionRing ring = Rings.five(2, 0, 0);
            for (int other = 0; other < 5; other++) {
                ring.cut(node, other, true);
            }
            due.is("targets of node " + node + ", cut off", 1, ring.targets(node, 0));
            due.is("put by it", 0, ring.put(node, 0, 1, -1));
            due.is("it has it, or a hint", node < 3 ? 1 : 2, ring.holds(node, 0));
            ring.power(node, false);
            due.is("targets of node " + node + ", down", 0, ring.targets(node, 0));
        }
    }

    private void positionsAre0To15() {
        due.about("THE RING has POSITIONS 0 .. 15, each free or with a TOKEN of a node.");
        VersionRing ring = new VersionRing(2, 0, 0);
        for (int position = -3; position < 20; position++) {
            boolean there = position >= 0 && position <= 15;
            due.is("token(1, " + position + ")", there ? 1 : 0, ring.token(1, position) ? 1 : 0);
        }
        for (int position = -3; position < 20; position++) {
            boolean there = position >= 0 && position <= 15;
            due.is("remove(" + position + ")", there ? 1 : 0, ring.remove(position) ? 1 : 0);
        }
    }

    private void keysAre0To31() {
        due.about("KEYS are 0 .. 31");
        VersionRing ring = Rings.five(2, 0, 0);
        int made = 0;
        for (int key = -3; key < 36; key++) {
            boolean there = key >= 0 && key <= 31;
            due.is("put under " + key, there ? made : -1, ring.put(0, key, 1, -1));
            due.is("get under " + key, there ? 1 : -1, ring.get(0, key, 0));
            made += there ? 1 : 0;
        }
    }

    /** Of two neighbours on the ring the upper one is met first only from its own position. */
    private void positionOfEachKey() {
        due.about("the position of key k is (5 * k + 3) mod 16");
        for (int key = 0; key < 32; key++) {
            for (int position = 0; position < 16; position++) {
                VersionRing ring = new VersionRing(2, 0, 0);
                ring.token(0, (position + 15) % 16);
                ring.token(1, position);
                int first = (5 * key + 3) % 16 == position ? 1 : 0;
                due.is("home(" + key + ", 0) with the upper one at " + position, first, ring.home(key, 0));
            }
        }
    }

    private void checkList(String when, VersionRing ring, int key, int... want) {
        for (int k = 0; k < want.length; k++) {
            due.is(when + ": home(" + key + ", " + k + ")", want[k], ring.home(key, k));
        }
    }

    private void listGoesUpwards() {
        due.about("from its position on, upwards");
        VersionRing ring = new VersionRing(2, 0, 0);
        ring.token(0, 2);
        ring.token(1, 4);
        ring.token(2, 3);
        checkList("tokens below, at and above position 3", ring, 0, 2, 1, 0);
        checkList("position 2", ring, 3, 0, 2, 1);
        checkList("position 4", ring, 13, 1, 0, 2);
    }

    private void listHas0Behind15() {
        due.about("with 0 behind 15");
        VersionRing ring = new VersionRing(2, 0, 0);
        ring.token(0, 14);
        ring.token(1, 0);
        ring.token(2, 15);
        checkList("position 15", ring, 12, 2, 1, 0);
        checkList("position 15", ring, 28, 2, 1, 0);
        checkList("position 14", ring, 31, 0, 2, 1);
        checkList("position 0", ring, 9, 1, 0, 2);
        ring.remove(15);
        checkList("position 15, free", ring, 12, 1, 0, -1);
    }

    private void listGoesOnceRound() {
        due.about("once round the ring, the nodes of the tokens that are met");
        for (int key = 0; key < 32; key++) {
            int position = (5 * key + 3) % 16;
            VersionRing ring = new VersionRing(2, 0, 0);
            ring.token(4, (position + 15) % 16);
            checkList("the last position alone", ring, key, 4, -1, -1);
            ring.token(3, position);
            checkList("the last and the first one", ring, key, 3, 4, -1);
            ring.token(2, (position + 1) % 16);
            checkList("the last and the first two", ring, key, 3, 2, 4);
        }
    }

    private void listHasNodeWhereMetFirst() {
        due.about("each where it is met first");
        VersionRing ring = new VersionRing(2, 0, 0);
        int[] nodes = {2, 2, 1, 2, 1, 0, 1, 3};
        for (int i = 0; i < nodes.length; i++) {
            ring.token(nodes[i], 3 + i);
        }
        checkList("tokens again and again", ring, 0, 2, 1, 0, -1);
        VersionRing alone = new VersionRing(2, 0, 0);
        for (int position = 0; position < 16; position++) {
            alone.token(4, position);
        }
        checkList("all tokens of one node", alone, 0, 4, -1, -1);
        due.is("targets", 1, alone.targets(0, 0));
    }

    private void homesAreFirstNUpOrDown() {
        due.about("Its HOMES are the first N nodes of its list, up or down");
        for (int n = 0; n < 3; n++) {
            VersionRing ring = Rings.five(n, 0, 0);
            for (int node = 4; node >= 0; node--) {
                ring.power(node, false);
                for (int k = 0; k < 5; k++) {
                    due.is("home(0, " + k + ") with n " + n + ", " + node + " down", k <= n ? k : -1, ring.home(0, k));
                }
            }
        }
    }

    private void homesAreAllIfFewer() {
        due.about("(all if there are fewer)");
        for (int nodes = 0; nodes <= 4; nodes++) {
            VersionRing ring = new VersionRing(2, 0, 0);
            for (int node = 0; node < nodes; node++) {
                ring.token(node, 3 + node);
            }
            for (int k = 0; k < 4; k++) {
                due.is(nodes + " nodes: home(0, " + k + ")", k < Math.min(nodes, 3) ? k : -1, ring.home(0, k));
            }
            due.is(nodes + " nodes: put", nodes == 0 ? -4 : 0, ring.put(4, 0, 1, -1));
            for (int node = 0; node < 5; node++) {
                due.is(nodes + " nodes: count(" + node + ", 0)", node < Math.min(nodes, 3) ? 1 : 0, ring.count(node, 0));
            }
        }
    }

    private void versionsAreNumberedFrom0() {
        due.about("VERSIONS are numbered 0, 1, .. as they are made");
        VersionRing ring = Rings.five(2, 0, 0);
        for (int i = 0; i < 40; i++) {
            due.is("refused put", -1, ring.put(0, 32, i, -1));
            due.is("put", i, ring.put(i % 5, 31 - i % 32, 100 + i, -1));
            due.is("its value", 100 + i, ring.version(i, 6));
            due.is("its key", 31 - i % 32, ring.version(i, 5));
        }
    }

    private void versionsAre40AtMost() {
        due.about("at most 40");
        VersionRing ring = Rings.full(2, 0, 0);
        due.is("versions()", 40, ring.versions());
        due.is("the last one", 39, ring.version(39, 6));
        due.is("put", -3, ring.put(0, 0, 41, -1));
        due.is("versions() behind it", 40, ring.versions());
        due.is("holds(0, 40)", -1, ring.holds(0, 40));
    }

    private void lastOf40IsBroughtLikeOthers() {
        due.about("VERSIONS are numbered 0, 1, .. as they are made, at most 40.");
        VersionRing ring = Rings.five(2, 0, 0);
        for (int i = 0; i < 39; i++) {
            ring.put(0, 0, i, -1);
        }
        Rings.turn(ring, false, 0, 1);
        due.is("the last put", 39, ring.put(2, 0, 39, -1));
        due.holds("past homes 0 and 1", ring, 39, 0, 0, 1, 2, 2);
        Rings.turn(ring, true, 0, 1);
        due.is("handing over its hint", 1, ring.handOver(3));
        due.is("comparing", 11, ring.compare(1, 2));
        due.holds("brought to both", ring, 39, 1, 1, 1, 0, 2);
        due.is("reading", 2, ring.get(0, 0, 0));
        due.is("found(1)", 39, ring.found(1));
        ring.remove(7);
        due.is("handing over as no home", 2, ring.handOver(2));
        due.holds("brought to node 3", ring, 39, 1, 1, 0, 1, 2);
    }

    private void equalCountsAreAtOrBelow() {
        due.about("A clock is AT OR BELOW another one if each of its counts is at or below the other's count.");
        for (int first = 0; first < 5; first++) {
            for (int second = 0; second < 5; second++) {
                VersionRing ring = Rings.one();
                ring.put(first, 0, 1, -1);
                ring.get(0, 0, 0);
                ring.put(second, 0, 2, 0);
                String who = "node " + second + " knew what node " + first + " wrote: ";
                due.is(who + "count", 1, ring.count(0, 0));
                due.is(who + "holds the newer one", 1, ring.holds(0, 1));
                due.is(who + "found", 1, ring.get(0, 0, 0));
            }
        }
    }

    private void oneCountAboveIsNotAtOrBelow() {
        due.about("if each of its counts is at or below the other's count");
        for (int first = 0; first < 5; first++) {
            for (int second = 0; second < 5; second++) {
                if (first != second) {
                    VersionRing ring = Rings.one();
                    ring.put(first, 0, 1, -1);
                    ring.get(0, 0, 0);
                    ring.put(first, 0, 2, -1);
                    ring.put(second, 0, 3, 0);
                    String who = "node " + second + " knew all but the last of node " + first + ": ";
                    due.is(who + "count", 2, ring.count(0, 0));
                    due.is(who + "found", 2, ring.get(0, 0, 0));
                }
            }
        }
    }

    /** A hint of version 0 for node 0 lies at node 3; the homes have version 0, but for node 0. */
    private static VersionRing hinted() {
        VersionRing ring = Rings.five(2, 0, 0);
        ring.power(0, false);
        ring.put(1, 0, 10, -1);
        ring.power(0, true);
        return ring;
    }

    private void takeNothingBesideNewer() {
        due.about("if the node has a version of its key whose clock the new one's is at or below, nothing");
        VersionRing ring = hinted();
        ring.get(1, 0, 0);
        ring.put(2, 0, 11, 0);
        ring.put(4, 0, 12, -1);
        due.is("handOver(3)", 1, ring.handOver(3));
        due.holds("the older one is not taken", ring, 0, 0, 0, 0, 0, 0);
        due.holds("the newer one stays", ring, 1, 1, 1, 1, 0, 0);
        due.holds("the one beside it stays", ring, 2, 1, 1, 1, 0, 0);
    }

    private void takeNothingThatItHas() {
        due.about("whose clock the new one's is at or below, nothing");
        VersionRing ring = hinted();
        due.is("get", 1, ring.get(0, 0, 0));
        due.holds("node 0 has it now", ring, 0, 1, 1, 1, 2, 0);
        due.is("handOver(3)", 1, ring.handOver(3));
        due.holds("node 0 has it still", ring, 0, 1, 1, 1, 0, 0);
        due.is("count(0, 0)", 1, ring.count(0, 0));
        due.is("get again", 1, ring.get(0, 0, 0));
        due.is("repaired()", 0, ring.repaired());
    }

    private void takeLetsOlderOnesLeave() {
        due.about("else the versions of the key that it has and whose clocks are at or below the new one's leave it, "
                + "and it has the new one");
        VersionRing ring = Rings.one();
        ring.put(1, 0, 10, -1);
        ring.put(2, 0, 11, -1);
        ring.get(0, 0, 0);
        ring.put(3, 0, 12, -1);
        due.is("three side by side", 3, ring.count(0, 0));
        ring.put(4, 0, 13, 0);
        int[] stay = {0, 0, 1, 1};
        for (int version = 0; version < 4; version++) {
            due.is("holds(0, " + version + ")", stay[version], ring.holds(0, version));
        }
    }

    private void takeLeavesOtherKeysAlone() {
        due.about("the versions of the key that it has");
        VersionRing ring = Rings.one();
        ring.put(0, 0, 10, -1);
        ring.put(0, 16, 11, -1);
        ring.put(0, 0, 12, -1);
        ring.put(0, 31, 13, -1);
        due.is("key 0 has the newer one alone", 1, ring.count(0, 0));
        due.is("key 16 keeps its one", 1, ring.count(0, 16));
        due.is("key 31 takes one with a lower clock", 1, ring.count(0, 31));
    }

    private void targetsAreFirstNReached() {
        due.about("TARGETS of node c for a key: the first N nodes of its list that c reaches");
        VersionRing ring = Rings.five(2, 0, 0);
        ring.power(1, false);
        ring.cut(4, 0, true);
        due.is("targets(4, 0)", 3, ring.targets(4, 0));
        due.is("put", 0, ring.put(4, 0, 1, -1));
        due.holds("past 0 and 1", ring, 0, 0, 0, 1, 2, 2);
        due.is("put by node 3, which reaches 0", 1, ring.put(3, 0, 1, -1));
        due.holds("past 1", ring, 1, 1, 0, 1, 2, 0);
    }

    private void targetsAreAllIfFewer() {
        due.about("that c reaches (all if there are fewer)");
        for (int n = 0; n < 3; n++) {
            VersionRing ring = Rings.five(n, 0, 0);
            for (int reached = 5; reached >= 1; reached--) {
                due.is(reached + " reached, n " + n, Math.min(reached, n + 1), ring.targets(4, 0));
                ring.cut(4, 5 - reached, true);
            }
            ring.remove(11);
            due.is("none reached, n " + n, 0, ring.targets(4, 0));
            due.is("put, n " + n, -4, ring.put(4, 0, 1, -1));
        }
    }

    /** The list of key 0 is 4, 3, 2, 1, 0, so that the order of the list is not that of the nodes. */
    private static VersionRing downwards() {
        VersionRing ring = new VersionRing(2, 0, 0);
        for (int node = 0; node < 5; node++) {
            ring.token(node, 11 - 2 * node);
        }
        return ring;
    }

    private void standInsForMissedHomesInOrder() {
        due.about("the first such target, in the order of the list, for the first home that c does not reach, "
                + "the second one for the second one, and so on");
        VersionRing ring = downwards();
        Rings.cutFrom(ring, 0, 4, 2);
        due.is("put past homes 4 and 2", 0, ring.put(0, 0, 1, -1));
        due.holds("1 and 0 stand in", ring, 0, 2, 2, 0, 1, 0);
        due.is("1 stands for 4", 1, ring.handOver(1));
        due.holds("1 stands for 4", ring, 0, 2, 0, 0, 1, 1);
        ring.cut(0, 4, false);
        due.is("0 does not stand for 4", 0, ring.handOver(0));
        ring.cut(0, 2, false);
        due.is("0 stands for 2", 1, ring.handOver(0));
        due.holds("0 stands for 2", ring, 0, 0, 0, 1, 1, 1);
    }

    private void fewerStandInsThanMissedHomes() {
        due.about("A target that is no home of the key STANDS FOR a home");
        VersionRing ring = downwards();
        Rings.cutFrom(ring, 0, 4, 3, 2);
        due.is("put past all three homes", 0, ring.put(0, 0, 1, -1));
        due.holds("1 and 0 stand in", ring, 0, 2, 2, 0, 0, 0);
        ring.cut(0, 4, false);
        ring.cut(0, 2, false);
        due.is("0 stands neither for 4 nor for 2", 0, ring.handOver(0));
        ring.cut(0, 3, false);
        due.is("0 stands for 3", 1, ring.handOver(0));
        due.is("1 stands for 4", 1, ring.handOver(1));
        due.holds("nobody stood for 2", ring, 0, 0, 0, 0, 1, 1);

        VersionRing few = new VersionRing(2, 0, 0);
        few.token(1, 3);
        few.token(2, 4);
        few.token(3, 5);
        few.power(1, false);
        due.is("put where all of the list are homes", 0, few.put(0, 0, 1, -1));
        due.holds("nobody stands in", few, 0, 0, 0, 1, 1, 0);
    }

    private void contextsAreEmptyAtFirst() {
        due.about("CONTEXTS 0 .. 3 have each a key and a clock, or are empty, as at first.");
        VersionRing ring = Rings.five(2, 0, 0);
        for (int context = 0; context < 4; context++) {
            due.knows("at first", ring, context, -1, -1, -1, -1, -1);
            due.is("put with context " + context + ", which has no key", context, ring.put(0, context, 1, context));
        }
        for (int context = 0; context < 4; context++) {
            due.is("get", 1, ring.get(0, context, context));
            for (int other = 0; other < 4; other++) {
                due.is("context(" + other + ", 0)", other <= context ? 1 : -1, ring.context(other, 0));
            }
        }
        for (int context = 0; context < 4; context++) {
            due.is("put under another key", -1, ring.put(0, (context + 1) % 4, 1, context));
            due.is("put under its key", 4 + context, ring.put(0, context, 1, context));
        }
    }

    /** A part with one of the two keys in it was compared, and its halves. */
    private static int partsOf(int one, int other) {
        int parts = 1;
        for (int size = 32; size > 1; size /= 2) {
            parts += one / size == other / size ? 2 : 4;
        }
        return parts;
    }

    private void partsAreHalves() {
        due.about("a part of more than one key has two HALVES, which are parts, the lower and the upper half of its keys");
        for (int one = 0; one < 32; one++) {
            for (int other = one + 1; other < 32; other++) {
                String keys = "keys " + one + " and " + other;
                due.is(keys, partsOf(one, other), Rings.missing(one, other).compare(0, 1));
            }
        }
        due.is("the middle", 19, Rings.missing(15, 16).compare(0, 1));
        due.is("both ends", 19, Rings.missing(0, 31).compare(0, 1));
    }

    private void sharedKeysNeedBothAsHomes() {
        due.about("Two nodes SHARE a key if both are homes of it");
        VersionRing ring = Rings.five(2, 0, 0);
        ring.put(0, 0, 10, -1);
        for (int a = 0; a < 5; a++) {
            for (int b = 0; b < 5; b++) {
                due.is("compare(" + a + ", " + b + ")", a == b ? -1 : 1, ring.compare(a, b));
            }
        }
        due.holds("3 and 4 are no homes", ring, 0, 1, 1, 1, 0, 0);
        ring.remove(7);
        due.is("node 2 is a home no more", 1, ring.compare(2, 4) * ring.compare(2, 3));
        due.is("node 3 is a home now", 11, ring.compare(3, 0));
        due.holds("3 is a home", ring, 0, 1, 1, 1, 1, 0);
    }

    private void agreeIfSameVersions() {
        due.about("they AGREE on a part if, of each key in it that they share, both have the same versions");
        due.is("both have none", 1, Rings.five(2, 0, 0).compare(0, 1));
        VersionRing ring = Rings.split();
        due.is("some of the other's", 11, ring.compare(0, 2));
        due.is("the same two", 1, ring.compare(0, 2));
        due.is("all of the other's", 11, ring.compare(2, 1));
        VersionRing apart = Rings.split();
        apart.cut(0, 1, false);
        due.is("as many, but others", 11, apart.compare(0, 1));
        due.is("the same two then", 1, apart.compare(1, 0));
        VersionRing hinted = hinted();
        hinted.remove(3);
        due.is("a hint is no version", 11, hinted.compare(1, 3));
        due.holds("node 3 is a home now, with a hint still", hinted, 0, 0, 1, 1, 3, 0);
    }
}
