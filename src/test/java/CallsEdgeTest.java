/** Each sentence under promises 1 to 11 that names a boundary case has a test of its own here. */
public final class CallsEdgeTest {
    private static final int LOW = Rings.LOW;
    private static final int HIGH = Rings.HIGH;
    private static final int[] SIZES = {LOW, LOW + 1, LOW + 2, LOW + 3, -5, -4, -3, -2, -1, 0, 1, 2, 3, 4, 5, 6, 7, 8,
        HIGH - 3, HIGH - 2, HIGH - 1, HIGH};
    private static final int[] HOMES = {1, 2, 3, 3};

    private final Due due = new Due("CallsEdgeTest");

    public static void main(String[] args) {
        CallsEdgeTest test = new CallsEdgeTest();
        test.newObjects();
        test.ringCalls();
        test.puts();
        test.putRefusals();
        test.gets();
        test.getRefusals();
        test.latestGet();
        test.handOvers();
        test.comparisons();
        test.due.end();
    }

    private void newObjects() {
        homesOfAnyN();
        readersOfAnyR();
        writersOfAnyW();
        newObjectIsEmpty();
    }

    private void ringCalls() {
        tokenAtFreePosition();
        tokenOfNoNodeOrPosition();
        tokenWhereNotFree();
        removeToken();
        removeNothing();
        powerOfNoNode();
        powerThatIsSoAlready();
        cutOfNoNode();
        cutFromItself();
        cutThatIsSoAlready();
    }

    private void puts() {
        putWithoutContext();
        putWithEmptyContext();
        putWithContextThatFoundNothing();
        putCountsTheWritesOfItsNode();
        putToHomesAndStandIns();
        putOfAnyValue();
    }

    private void putRefusals() {
        putByNoNode();
        putUnderNoKey();
        putWithNoContext();
        putWithContextOfAnotherKey();
        putWhileDown();
        putBehindThe40th();
        putWithFewerThanW();
        putAnswersTheFirstRefusal();
    }

    private void gets() {
        getFindsWhatIsPassedByNoOther();
        getFindsInHints();
        getFindsAtTargetsAlone();
        getFindsNothing();
        getWritesItsContextAnew();
        getBringsToHomesAlone();
    }

    private void getRefusals() {
        getByNoNode();
        getUnderNoKey();
        getWithNoContext();
        getWhileDown();
        getWithFewerThanR();
        getAnswersTheFirstRefusal();
    }

    private void latestGet() {
        foundBeforeAnyGet();
        foundNotSoMany();
        foundBelow0();
        foundBehindRefusedGets();
        repairedBeforeAnyGet();
        repairedByLatestGetAlone();
        repairedBehindRefusedGets();
    }

    private void handOvers() {
        handOverOfHintsThatReach();
        handOverOfKeysWithoutHomes();
        handOverReachesAllHomes();
        handOverOfNothing();
        handOverByNoNode();
        handOverWhileDown();
    }

    private void comparisons() {
        compareWhatAgrees();
        compareOneKey();
        compareAllKeys();
        compareNoNodesOrTheSame();
        compareWhatIsNotReached();
        compareAnswersTheFirstRefusal();
    }

    // Promise 1

    private void homesOfAnyN() {
        due.about("N is 1 + the lowest two bits of n, but 3 if that is 4");
        for (int n : SIZES) {
            VersionRing ring = Rings.five(n, 0, 0);
            int homes = HOMES[n & 3];
            due.is("n " + n + ": targets(0, 0)", homes, ring.targets(0, 0));
            for (int k = 0; k < 5; k++) {
                due.is("n " + n + ": home(0, " + k + ")", k < homes ? k : -1, ring.home(0, k));
            }
        }
    }

    private void readersOfAnyR() {
        due.about("R is 1 + the lowest two bits of r, W is 1 + the lowest two bits of w, both N at most (R)");
        for (int n : SIZES) {
            for (int r : SIZES) {
                int readers = Math.min(HOMES[n & 3], 1 + (r & 3));
                VersionRing ring = new VersionRing(n, r, 0);
                for (int nodes = 0; nodes <= 5; nodes++) {
                    String when = "n " + n + ", r " + r + ", " + nodes + " nodes: ";
                    due.is(when + "get", nodes < readers ? -3 : 0, ring.get(0, 0, 0));
                    ring.token(nodes, nodes);
                }
            }
        }
    }

    private void writersOfAnyW() {
        due.about("R is 1 + the lowest two bits of r, W is 1 + the lowest two bits of w, both N at most (W)");
        for (int n : SIZES) {
            for (int w : SIZES) {
                int writers = Math.min(HOMES[n & 3], 1 + (w & 3));
                VersionRing ring = new VersionRing(n, 0, w);
                for (int nodes = 0; nodes <= 5; nodes++) {
                    String when = "n " + n + ", w " + w + ", " + nodes + " nodes: ";
                    due.is(when + "put", nodes < writers ? -4 : nodes - writers, ring.put(0, 0, 0, -1));
                    ring.token(nodes, nodes);
                }
            }
        }
    }

    private void newObjectIsEmpty() {
        due.about("No tokens, no versions, no hints, all contexts empty.");
        VersionRing used = Rings.split();
        used.get(2, 0, 0);
        used.power(0, false);
        used.put(2, 0, 1, -1);
        VersionRing ring = new VersionRing(2, 0, 0);
        due.is("versions()", 0, ring.versions());
        for (int key = 0; key < 32; key++) {
            due.is("home(" + key + ", 0)", -1, ring.home(key, 0));
        }
        for (int position = 0; position < 16; position++) {
            due.no("remove(" + position + ")", ring.remove(position));
        }
        for (int node = 0; node < 5; node++) {
            due.is("hints(" + node + ")", 0, ring.hints(node));
            due.is("count(" + node + ", 0)", 0, ring.count(node, 0));
            due.is("holds(" + node + ", 0)", -1, ring.holds(node, 0));
        }
        for (int context = 0; context < 4; context++) {
            due.knows("new", ring, context, -1, -1, -1, -1, -1);
        }
    }

    // Promises 2 to 5

    private void tokenAtFreePosition() {
        due.about("Puts a token of a node at a free position: true.");
        for (int position = 0; position < 16; position++) {
            for (int node = 0; node < 5; node++) {
                VersionRing ring = new VersionRing(0, 0, 0);
                due.yes("token(" + node + ", " + position + ")", ring.token(node, position));
                due.is("home(0, 0)", node, ring.home(0, 0));
            }
        }
    }

    private void tokenOfNoNodeOrPosition() {
        due.about("False if there is no such node or position");
        VersionRing ring = new VersionRing(0, 0, 0);
        for (int wrong : Rings.noNodes()) {
            due.no("token(" + wrong + ", 3)", ring.token(wrong, 3));
            due.no("token(" + wrong + ", 16)", ring.token(wrong, 16));
        }
        for (int wrong : Rings.noPositions()) {
            due.no("token(0, " + wrong + ")", ring.token(0, wrong));
            due.no("token(4, " + wrong + ")", ring.token(4, wrong));
        }
        due.is("home(0, 0)", -1, ring.home(0, 0));
        due.yes("position 3 is free still", ring.token(1, 3));
    }

    private void tokenWhereNotFree() {
        due.about("or the position is not free");
        VersionRing ring = new VersionRing(0, 0, 0);
        ring.token(0, 3);
        ring.token(4, 15);
        for (int node = 0; node < 5; node++) {
            due.no("token(" + node + ", 3)", ring.token(node, 3));
            due.no("token(" + node + ", 15)", ring.token(node, 15));
        }
        due.is("home(0, 0)", 0, ring.home(0, 0));
        due.is("home(12, 0)", 4, ring.home(12, 0));
        ring.remove(3);
        due.yes("token(2, 3), free again", ring.token(2, 3));
        due.is("home(0, 0) then", 2, ring.home(0, 0));
    }

    private void removeToken() {
        due.about("Takes the token at a position away: true.");
        for (int position = 0; position < 16; position++) {
            VersionRing ring = new VersionRing(0, 0, 0);
            ring.token(0, position);
            ring.token(1, (position + 1) % 16);
            due.yes("remove(" + position + ")", ring.remove(position));
            for (int key = 0; key < 16; key++) {
                due.is("home(" + key + ", 0) without " + position, 1, ring.home(key, 0));
            }
        }
        VersionRing ring = Rings.five(2, 0, 0);
        ring.power(0, false);
        ring.put(1, 0, 10, -1);
        for (int position = 3; position <= 11; position += 2) {
            due.yes("remove(" + position + ")", ring.remove(position));
        }
        due.holds("versions and hints stay", ring, 0, 0, 1, 1, 2, 0);
    }

    private void removeNothing() {
        due.about("False if there is no such position or no token at it.");
        VersionRing ring = Rings.five(2, 0, 0);
        for (int wrong : Rings.noPositions()) {
            due.no("remove(" + wrong + ")", ring.remove(wrong));
        }
        for (int position = 0; position < 16; position++) {
            boolean there = position >= 3 && position <= 11 && position % 2 == 1;
            due.is("remove(" + position + ")", there ? 1 : 0, ring.remove(position) ? 1 : 0);
            due.no("remove(" + position + ") again", ring.remove(position));
        }
    }

    private void powerOfNoNode() {
        due.about("False if there is no such node or it is so already. (no such node)");
        VersionRing ring = new VersionRing(0, 0, 0);
        for (int wrong : Rings.noNodes()) {
            due.no("power(" + wrong + ", false)", ring.power(wrong, false));
            due.no("power(" + wrong + ", true)", ring.power(wrong, true));
        }
    }

    private void powerThatIsSoAlready() {
        due.about("False if there is no such node or it is so already. (so already)");
        VersionRing ring = new VersionRing(0, 0, 0);
        for (int node = 0; node < 5; node++) {
            due.no("up, up at first", ring.power(node, true));
            due.yes("down", ring.power(node, false));
            due.no("down again", ring.power(node, false));
            due.is("it is down", -2, ring.handOver(node));
            due.yes("up", ring.power(node, true));
            due.no("up again", ring.power(node, true));
            due.is("it is up", 0, ring.handOver(node));
        }
    }

    private void cutOfNoNode() {
        due.about("False if one of them is no node");
        VersionRing ring = new VersionRing(0, 0, 0);
        for (int wrong : Rings.noNodes()) {
            for (int other : new int[] {LOW, -1, 0, 4, 5, HIGH, wrong}) {
                due.no("cut(" + wrong + ", " + other + ", true)", ring.cut(wrong, other, true));
                due.no("cut(" + other + ", " + wrong + ", true)", ring.cut(other, wrong, true));
                due.no("cut(" + wrong + ", " + other + ", false)", ring.cut(wrong, other, false));
            }
        }
    }

    private void cutFromItself() {
        due.about("both are the same");
        VersionRing ring = Rings.five(0, 0, 0);
        for (int node = 0; node < 5; node++) {
            due.no("cut(" + node + ", " + node + ", true)", ring.cut(node, node, true));
            due.no("cut(" + node + ", " + node + ", false)", ring.cut(node, node, false));
            due.is("it reaches itself still", 1, ring.targets(node, 0));
        }
    }

    private void cutThatIsSoAlready() {
        due.about("or it is so already");
        VersionRing ring = new VersionRing(0, 0, 0);
        for (int a = 0; a < 5; a++) {
            for (int b = 0; b < 5; b++) {
                if (a != b) {
                    String line = "line " + a + " " + b + ": ";
                    due.no(line + "mended already", ring.cut(a, b, false));
                    due.yes(line + "cut", ring.cut(a, b, true));
                    due.no(line + "cut already", ring.cut(a, b, true));
                    due.no(line + "cut already, from the other side", ring.cut(b, a, true));
                    due.yes(line + "mended from the other side", ring.cut(b, a, false));
                    due.no(line + "mended already, behind it", ring.cut(a, b, false));
                }
            }
        }
    }

    // Promise 6

    private void putWithoutContext() {
        due.about("knowing a context (none if context is -1)");
        VersionRing ring = Rings.split();
        for (int context = 0; context < 4; context++) {
            ring.get(2, 0, context);
        }
        due.is("put under the key of all contexts", 2, ring.put(4, 0, 12, -1));
        due.clock("it knows nothing", ring, 2, 0, 0, 0, 0, 1);
        due.is("put under a key of no context", 3, ring.put(4, 7, 13, -1));
        due.clock("it knows nothing", ring, 3, 0, 0, 0, 0, 1);
        due.is("all stand side by side", 3, ring.count(2, 0));
    }

    private void putWithEmptyContext() {
        due.about("all 0 without one, or when the context is empty");
        for (int context = 0; context < 4; context++) {
            VersionRing ring = Rings.split();
            due.is("put with empty context " + context, 2, ring.put(3, 0, 12, context));
            due.clock("context " + context, ring, 2, 0, 0, 0, 1, 0);
            due.is("put under another key with it, empty still", 3, ring.put(3, 9, 13, context));
            due.clock("context " + context, ring, 3, 0, 0, 0, 1, 0);
            due.knows("a put leaves it empty", ring, context, -1, -1, -1, -1, -1);
        }
    }

    private void putWithContextThatFoundNothing() {
        due.about("Its clock is that of the context");
        VersionRing ring = Rings.five(2, 0, 0);
        ring.put(0, 0, 10, -1);
        ring.get(0, 31, 0);
        due.is("the context has the key of the get", -1, ring.put(1, 0, 11, 0));
        due.is("put under its key", 1, ring.put(1, 31, 12, 0));
        due.clock("nothing was found", ring, 1, 0, 1, 0, 0, 0);
        ring.get(0, 0, 3);
        ring.put(4, 0, 13, 3);
        due.clock("what was found", ring, 2, 1, 0, 0, 0, 1);
    }

    private void putCountsTheWritesOfItsNode() {
        due.about("but its count for c is 1 + the number of versions of this key that c wrote before");
        VersionRing ring = Rings.five(2, 0, 2);
        due.is("refused", -1, ring.put(1, 0, 1, 4));
        ring.put(1, 0, 10, -1);
        due.clock("the first", ring, 0, 0, 1, 0, 0, 0);
        ring.get(1, 0, 0);
        ring.put(1, 16, 11, -1);
        due.clock("the first of another key", ring, 1, 0, 1, 0, 0, 0);
        ring.put(2, 0, 12, -1);
        due.clock("the first of another node", ring, 2, 0, 0, 1, 0, 0);
        ring.put(1, 0, 13, -1);
        due.clock("the second, which knows nothing", ring, 3, 0, 2, 0, 0, 0);
        ring.put(1, 0, 14, 0);
        due.clock("the third, with a context that knows the first", ring, 4, 0, 3, 0, 0, 0);
        ring.put(0, 0, 15, 0);
        due.clock("another node with that context", ring, 5, 1, 1, 0, 0, 0);
        Rings.cutFrom(ring, 1, 0, 2, 3);
        due.is("refused", -4, ring.put(1, 0, 16, -1));
        ring.cut(1, 3, false);
        ring.put(1, 0, 16, -1);
        due.clock("the fourth, when the refused one did not count", ring, 6, 0, 4, 0, 0, 0);
    }

    private void putToHomesAndStandIns() {
        due.about("Each target of c for the key that is a home takes it; each other target has a hint of it from now on");
        VersionRing ring = Rings.five(2, 0, 0);
        due.is("all homes reached", 0, ring.put(4, 0, 1, -1));
        due.holds("no hint", ring, 0, 1, 1, 1, 0, 0);
        ring.power(2, false);
        due.is("one home missed", 1, ring.put(4, 0, 1, -1));
        due.holds("one hint", ring, 1, 1, 1, 0, 2, 0);
        ring.power(1, false);
        due.is("two homes missed", 2, ring.put(4, 0, 1, -1));
        due.holds("two hints", ring, 2, 1, 0, 0, 2, 2);
        ring.power(0, false);
        due.is("all homes missed", 3, ring.put(4, 0, 1, -1));
        due.holds("two hints, and no home", ring, 3, 0, 0, 0, 2, 2);
        due.is("hints(3)", 3, ring.hints(3));
        due.is("hints(4)", 2, ring.hints(4));
    }

    private void putOfAnyValue() {
        due.about("Node c writes a value under a key");
        VersionRing ring = Rings.five(2, 0, 0);
        int[] values = {LOW, -1, 0, 1, HIGH};
        for (int i = 0; i < values.length; i++) {
            due.is("put of " + values[i], i, ring.put(i, 31, values[i], -1));
            due.is("version(" + i + ", 6)", values[i], ring.version(i, 6));
        }
    }

    private void putByNoNode() {
        due.about("-1 if there is no such node or key (put, node)");
        VersionRing ring = Rings.five(2, 0, 0);
        for (int wrong : Rings.noNodes()) {
            due.is("put(" + wrong + ", 0, 1, -1)", -1, ring.put(wrong, 0, 1, -1));
        }
        due.is("the first node", 0, ring.put(0, 0, 1, -1));
        due.is("the last node", 1, ring.put(4, 0, 1, -1));
    }

    private void putUnderNoKey() {
        due.about("-1 if there is no such node or key (put, key)");
        VersionRing ring = Rings.five(2, 0, 0);
        for (int wrong : Rings.noKeys()) {
            due.is("put(0, " + wrong + ", 1, -1)", -1, ring.put(0, wrong, 1, -1));
        }
        due.is("the first key", 0, ring.put(0, 0, 1, -1));
        due.is("the last key", 1, ring.put(0, 31, 1, -1));
    }

    private void putWithNoContext() {
        due.about("context is not -1 .. 3");
        VersionRing ring = Rings.five(2, 0, 0);
        for (int wrong : Rings.noPutContexts()) {
            due.is("put(0, 0, 1, " + wrong + ")", -1, ring.put(0, 0, 1, wrong));
        }
        for (int context = -1; context <= 3; context++) {
            due.is("put(0, 0, 1, " + context + ")", context + 1, ring.put(0, 0, 1, context));
        }
    }

    private void putWithContextOfAnotherKey() {
        due.about("or that context has another key");
        for (int context = 0; context < 4; context++) {
            VersionRing ring = Rings.five(2, 0, 0);
            ring.get(0, 15, context);
            for (int key = 0; key < 32; key++) {
                due.is("put under " + key + " with context " + context, key == 15 ? 0 : -1, ring.put(0, key, 1, context));
            }
            due.is("the other contexts are empty", 1, ring.put(0, 0, 1, (context + 1) % 4));
        }
    }

    private void putWhileDown() {
        due.about("-2 if c is not up (put)");
        for (int node = 0; node < 5; node++) {
            VersionRing ring = Rings.five(2, 0, 0);
            ring.power(node, false);
            due.is("put by node " + node, -2, ring.put(node, 0, 1, -1));
            due.is("put by another one", 0, ring.put((node + 1) % 5, 0, 1, -1));
            ring.power(node, true);
            due.is("put by node " + node + " when up again", 1, ring.put(node, 0, 1, -1));
        }
    }

    private void putBehindThe40th() {
        due.about("-3 if 40 versions were made");
        VersionRing ring = Rings.five(2, 0, 0);
        for (int i = 0; i < 40; i++) {
            due.is("put " + i, i, ring.put(i % 5, 7, i, -1));
        }
        for (int node = 0; node < 5; node++) {
            due.is("the next one, by node " + node, -3, ring.put(node, 7, 40, -1));
            due.is("under another key", -3, ring.put(node, 31, 40, 3));
        }
        due.is("versions()", 40, ring.versions());
    }

    private void putWithFewerThanW() {
        due.about("-4 if c has fewer than W targets for the key");
        for (int w = 0; w < 3; w++) {
            VersionRing none = new VersionRing(2, 0, w);
            due.is("no tokens, w " + w, -4, none.put(0, 0, 1, -1));
            VersionRing ring = Rings.five(2, 0, w);
            int made = 0;
            for (int reached = 5; reached >= 1; reached--) {
                String when = reached + " reached, w " + w;
                due.is(when, reached > w ? made : -4, ring.put(4, 0, 1, -1));
                made += reached > w ? 1 : 0;
                ring.cut(4, 5 - reached, true);
            }
        }
    }

    private void putAnswersTheFirstRefusal() {
        due.about("the first that holds, in the order named, is answered (put)");
        VersionRing full = Rings.full(2, 0, 2);
        full.get(0, 0, 1);
        due.is("-1 and -3: node", -1, full.put(5, 0, 1, -1));
        due.is("-1 and -3: key", -1, full.put(0, 32, 1, -1));
        due.is("-1 and -3: context", -1, full.put(0, 0, 1, 4));
        due.is("-1 and -3: another key", -1, full.put(0, 1, 1, 1));
        Rings.turn(full, false, 1, 2, 3);
        due.is("-3 and -4", -3, full.put(0, 0, 1, -1));
        due.is("-2, -3 and -4", -2, full.put(1, 0, 1, -1));
        due.is("-2 and -3, with the key of the context", -2, full.put(1, 0, 1, 1));
        due.is("all four", -1, full.put(1, 32, 1, -1));

        VersionRing few = Rings.five(2, 0, 2);
        few.get(0, 0, 1);
        Rings.turn(few, false, 1, 2, 3);
        due.is("-4 alone", -4, few.put(0, 0, 1, -1));
        due.is("-1 and -4: key", -1, few.put(0, -1, 1, -1));
        due.is("-1 and -4: context", -1, few.put(0, 0, 1, -2));
        due.is("-1 and -4: another key", -1, few.put(0, 16, 1, 1));
        due.is("-2 and -4", -2, few.put(2, 0, 1, -1));
        due.is("-1 and -2: key", -1, few.put(2, 32, 1, -1));
        due.is("-1 and -2: context", -1, few.put(2, 0, 1, 4));
        due.is("-1 and -2: another key", -1, few.put(2, 16, 1, 1));

        VersionRing down = Rings.full(2, 0, 0);
        down.power(4, false);
        due.is("-2 and -3", -2, down.put(4, 0, 1, -1));
    }

    // Promise 7

    private void getFindsWhatIsPassedByNoOther() {
        due.about("those whose clock is not at or below that of another one of them");
        VersionRing alone = Rings.one();
        alone.put(0, 0, 10, -1);
        due.is("one alone is not passed by itself", 1, alone.get(0, 0, 0));
        VersionRing ring = Rings.split();
        due.is("two side by side", 2, ring.get(2, 0, 0));
        ring.power(1, false);
        due.is("one that knew both, missed by node 1", 2, ring.put(2, 0, 12, 0));
        ring.power(1, true);
        due.is("node 1 has two older ones", 2, ring.count(1, 0));
        due.is("which are not found", 1, ring.get(2, 0, 0));
        due.is("but the newer one", 2, ring.found(0));
    }

    private void getFindsInHints() {
        due.about("also in hints (for whichever node)");
        VersionRing ring = Rings.five(2, 0, 0);
        Rings.cutFrom(ring, 4, 0, 1, 2);
        ring.put(4, 0, 10, -1);
        due.holds("hints alone, for 0 and 1", ring, 0, 0, 0, 0, 2, 2);
        due.is("get where no hint is at a target", 0, ring.get(0, 0, 0));
        ring.power(2, false);
        due.is("get with node 3 in the place of 2", 1, ring.get(0, 0, 0));
        due.is("repaired()", 2, ring.repaired());
        due.holds("homes 0 and 1 took it", ring, 0, 1, 1, 0, 2, 2);
        due.is("hints of other keys are not found", 0, ring.get(0, 16, 1));
    }

    private void getFindsAtTargetsAlone() {
        due.about("of all versions of the key that the targets of c have");
        for (int missed = 0; missed <= 4; missed++) {
            VersionRing ring = Rings.five(2, 0, 0);
            ring.put(4, 0, 10, -1);
            due.is("all homes are targets", 1, ring.get(4, 0, 0));
            for (int node = 0; node < missed; node++) {
                ring.cut(4, node, true);
            }
            due.is("found past " + missed + " nodes", missed < 3 ? 1 : 0, ring.get(4, 0, 0));
        }
    }

    private void getFindsNothing() {
        due.about("The context gets the key, and the clock whose every count is the greatest among those of the found ones "
                + "(0 if nothing is found).");
        for (int context = 0; context < 4; context++) {
            VersionRing ring = Rings.split();
            due.is("get", 0, ring.get(2, 16, context));
            due.knows("nothing found", ring, context, 0, 0, 0, 0, 0);
            due.is("it has the key 16", -1, ring.put(2, 0, 1, context));
            due.is("it has the key 16", 2, ring.put(2, 16, 1, context));
            due.is("get of key 0", 2, ring.get(2, 0, context));
            due.knows("the greatest of both", ring, context, 1, 1, 0, 0, 0);
        }
    }

    private void getWritesItsContextAnew() {
        due.about("the clock whose every count is the greatest among those of the found ones");
        VersionRing ring = Rings.five(2, 0, 0);
        for (int i = 0; i < 3; i++) {
            ring.put(0, 0, i, -1);
        }
        ring.put(1, 0, 3, -1);
        ring.put(4, 31, 4, -1);
        ring.get(0, 0, 0);
        due.knows("key 0", ring, 0, 3, 1, 0, 0, 0);
        ring.get(0, 31, 0);
        due.knows("key 31, with nothing left of key 0", ring, 0, 0, 0, 0, 0, 1);
        due.is("put under the former key", -1, ring.put(0, 0, 5, 0));
        due.is("put under the new key", 5, ring.put(0, 31, 5, 0));
        ring.get(0, 5, 0);
        due.knows("key 5, with nothing left of key 31", ring, 0, 0, 0, 0, 0, 0);
        due.knows("the others stay empty", ring, 1, -1, -1, -1, -1, -1);
    }

    private void getBringsToHomesAlone() {
        due.about("Then each target that is a home takes the found ones");
        VersionRing ring = Rings.split();
        Rings.turn(ring, false, 0);
        due.is("get by node 2, with 3 in the place of 0", 2, ring.get(2, 0, 0));
        due.holds("0 is no target, 3 is no home", ring, 0, 1, 1, 1, 0, 0);
        due.holds("0 is no target, 3 is no home", ring, 1, 0, 1, 1, 0, 0);
        due.is("repaired()", 1, ring.repaired());
    }

    private void getByNoNode() {
        due.about("-1 if there is no such node or key (get, node)");
        VersionRing ring = Rings.five(2, 0, 0);
        for (int wrong : Rings.noNodes()) {
            due.is("get(" + wrong + ", 0, 0)", -1, ring.get(wrong, 0, 0));
        }
        due.is("the first node", 0, ring.get(0, 0, 0));
        due.is("the last node", 0, ring.get(4, 0, 0));
    }

    private void getUnderNoKey() {
        due.about("-1 if there is no such node or key (get, key)");
        VersionRing ring = Rings.five(2, 0, 0);
        for (int wrong : Rings.noKeys()) {
            due.is("get(0, " + wrong + ", 0)", -1, ring.get(0, wrong, 0));
        }
        due.is("the first key", 0, ring.get(0, 0, 0));
        due.is("the last key", 0, ring.get(0, 31, 0));
    }

    private void getWithNoContext() {
        due.about("or context is not 0 .. 3");
        VersionRing ring = Rings.five(2, 0, 0);
        for (int wrong : Rings.noContexts()) {
            due.is("get(0, 0, " + wrong + ")", -1, ring.get(0, 0, wrong));
        }
        for (int context = 0; context <= 3; context++) {
            due.is("get(0, 0, " + context + ")", 0, ring.get(0, 0, context));
        }
        due.is("a context may have another key", 0, ring.get(0, 1, 3));
    }

    private void getWhileDown() {
        due.about("-2 if c is not up (get)");
        for (int node = 0; node < 5; node++) {
            VersionRing ring = Rings.five(2, 0, 0);
            ring.power(node, false);
            due.is("get by node " + node, -2, ring.get(node, 0, 0));
            due.is("get by another one", 0, ring.get((node + 1) % 5, 0, 0));
            ring.power(node, true);
            due.is("get by node " + node + " when up again", 0, ring.get(node, 0, 0));
        }
    }

    private void getWithFewerThanR() {
        due.about("-3 if c has fewer than R targets for the key");
        for (int r = 0; r < 3; r++) {
            VersionRing none = new VersionRing(2, r, 0);
            due.is("no tokens, r " + r, -3, none.get(0, 0, 0));
            VersionRing ring = Rings.five(2, r, 0);
            for (int reached = 5; reached >= 1; reached--) {
                due.is(reached + " reached, r " + r, reached > r ? 0 : -3, ring.get(4, 0, 0));
                ring.cut(4, 5 - reached, true);
            }
            due.is("the node alone, r " + r, r > 0 ? -3 : 0, ring.get(4, 1, 3));
            due.is("a context that a refused get leaves empty, r " + r, r > 0 ? -1 : 0, ring.context(3, 0));
        }
    }

    private void getAnswersTheFirstRefusal() {
        due.about("the first that holds, in the order named, is answered (get)");
        VersionRing ring = Rings.five(2, 2, 0);
        Rings.turn(ring, false, 1, 2, 3);
        due.is("-3 alone", -3, ring.get(0, 0, 0));
        due.is("-2 and -3", -2, ring.get(1, 0, 0));
        due.is("-1 and -3: key", -1, ring.get(0, 32, 0));
        due.is("-1 and -3: context", -1, ring.get(0, 0, -1));
        due.is("-1, -2 and -3: key", -1, ring.get(1, -1, 0));
        due.is("-1, -2 and -3: context", -1, ring.get(1, 0, 4));
        due.is("the node alone is none", -1, ring.get(5, 0, 0));
        Rings.turn(ring, true, 2, 3);
        due.is("-2 with enough targets for others", -2, ring.get(1, 0, 0));
        due.is("-1 and -2: key", -1, ring.get(1, 32, 0));
        due.is("-1 and -2: context", -1, ring.get(1, 0, 4));
    }

    // Promises 8 and 9

    private void checkFoundNone(String when, VersionRing ring) {
        for (int k : new int[] {LOW, -1, 0, 1, 39, 40, HIGH}) {
            due.is(when + ": found(" + k + ")", -1, ring.found(k));
        }
    }

    private void foundBeforeAnyGet() {
        due.about("NONE if there was none");
        checkFoundNone("a new object", new VersionRing(2, 0, 0));
        checkFoundNone("versions, but no get", Rings.full(2, 0, 0));
        VersionRing refused = Rings.split();
        refused.get(2, 0, 4);
        checkFoundNone("a refused get alone", refused);
    }

    private void foundNotSoMany() {
        due.about("or not so many were found");
        VersionRing ring = Rings.five(2, 0, 0);
        for (int number = 0; number <= 5; number++) {
            due.is("get", number, ring.get(0, 0, 0));
            for (int k = 0; k <= 41; k++) {
                due.is(number + " found: found(" + k + ")", k < number ? k : -1, ring.found(k));
            }
            due.is(number + " found: found(MAX)", -1, ring.found(HIGH));
            ring.put(Math.min(number, 4), 0, number, -1);
        }
        due.is("get where nothing is found", 0, ring.get(0, 16, 0));
        checkFoundNone("nothing found", ring);
    }

    private void foundBelow0() {
        due.about("or k is negative");
        VersionRing ring = Rings.split();
        ring.get(2, 0, 0);
        for (int k : new int[] {LOW, LOW + 1, -40, -2, -1}) {
            due.is("found(" + k + ")", -1, ring.found(k));
        }
        due.is("found(0)", 0, ring.found(0));
    }

    /** Behind a get() that found two versions and brought one to each of two nodes. */
    private static VersionRing gotten() {
        VersionRing ring = Rings.split();
        ring.cut(0, 3, false);
        ring.cut(1, 3, false);
        ring.get(3, 0, 0);
        return ring;
    }

    /** Each kind of refusal, with arguments that would find and bring nothing if they were taken. */
    private void refuseGets(VersionRing ring) {
        due.is("refused: node", -1, ring.get(5, 16, 0));
        due.is("refused: key", -1, ring.get(3, 32, 0));
        due.is("refused: context", -1, ring.get(3, 16, -1));
        ring.power(4, false);
        due.is("refused: down", -2, ring.get(4, 16, 0));
        for (int position = 3; position <= 11; position += 2) {
            ring.remove(position);
        }
        due.is("refused: fewer than R", -3, ring.get(3, 16, 0));
    }

    private void foundBehindRefusedGets() {
        due.about("in the latest get() that was not refused (found)");
        VersionRing ring = gotten();
        refuseGets(ring);
        due.is("found(0)", 0, ring.found(0));
        due.is("found(1)", 1, ring.found(1));
        due.is("found(2)", -1, ring.found(2));
        VersionRing later = gotten();
        later.put(3, 0, 12, 0);
        due.is("found(1) when no node has it any more", 1, later.found(1));
        due.is("found(2) when a newer one was made", -1, later.found(2));
        due.is("get", 1, later.get(3, 0, 1));
        due.is("found(0) behind the next get", 2, later.found(0));
        due.is("found(1) behind the next get", -1, later.found(1));
    }

    private void repairedBeforeAnyGet() {
        due.about("0 if there was no such call");
        due.is("a new object", 0, new VersionRing(2, 0, 0).repaired());
        VersionRing ring = Rings.split();
        due.is("versions, but no get", 0, ring.repaired());
        ring.get(0, 0, 4);
        due.is("a refused get alone", 0, ring.repaired());
        ring.compare(0, 2);
        due.is("a compare that brought one", 0, ring.repaired());
    }

    private void repairedByLatestGetAlone() {
        due.about("In how many cases a node had a version behind the latest get() that was not refused and "
                + "did not have it before that call");
        VersionRing ring = gotten();
        due.is("two nodes got one each", 2, ring.repaired());
        ring.get(3, 0, 0);
        due.is("the next get brought none", 0, ring.repaired());
        VersionRing both = Rings.split();
        both.remove(5);
        due.is("nodes 0, 2 and 3 are homes now", 2, both.get(2, 0, 0));
        due.is("node 0 got one, node 3 two", 3, both.repaired());
    }

    private void repairedBehindRefusedGets() {
        due.about("the latest get() that was not refused (repaired)");
        VersionRing ring = gotten();
        refuseGets(ring);
        due.is("repaired()", 2, ring.repaired());
        VersionRing later = gotten();
        later.put(3, 0, 12, 0);
        later.power(1, false);
        due.is("later calls that are no get", 2, later.repaired());
    }

    // Promise 10

    private void handOverOfHintsThatReach() {
        due.about("if the node reaches that one, that one takes the version, and the hint is gone");
        VersionRing ring = Rings.five(2, 0, 0);
        ring.power(0, false);
        ring.put(1, 0, 10, -1);
        ring.power(0, true);
        ring.power(1, false);
        ring.put(0, 0, 11, -1);
        due.is("a hint for 0 and one for 1", 2, ring.hints(3));
        ring.cut(0, 3, true);
        due.is("0 is cut off, 1 is down", 0, ring.handOver(3));
        due.is("both stay", 2, ring.hints(3));
        ring.power(1, true);
        due.is("1 is reached", 1, ring.handOver(3));
        due.holds("1 took the one", ring, 1, 1, 1, 1, 0, 0);
        due.holds("that for 0 stays", ring, 0, 0, 1, 1, 2, 0);
        ring.cut(0, 3, false);
        due.is("0 is reached", 1, ring.handOver(3));
        due.holds("0 took the other", ring, 0, 1, 1, 1, 0, 0);
        due.is("no hint is left", 0, ring.hints(3));
    }

    private void handOverOfKeysWithoutHomes() {
        due.about("if the key has homes and the node reaches all of them (no homes)");
        VersionRing ring = Rings.one();
        ring.put(0, 0, 10, -1);
        ring.put(0, 31, 11, -1);
        due.is("it is the home", 0, ring.handOver(0));
        ring.remove(3);
        due.is("there is no home", 0, ring.handOver(0));
        due.is("all stays, under key 0", 1, ring.count(0, 0));
        due.is("all stays, under key 31", 1, ring.count(0, 31));
        ring.token(4, 0);
        due.is("node 4 is the home", 2, ring.handOver(0));
        due.holds("key 0", ring, 0, 0, 0, 0, 0, 1);
        due.holds("key 31", ring, 1, 0, 0, 0, 0, 1);
    }

    private void handOverReachesAllHomes() {
        due.about("if the key has homes and the node reaches all of them (all of them)");
        for (int home = 1; home <= 3; home++) {
            VersionRing ring = Rings.five(2, 0, 0);
            ring.put(0, 0, 10, -1);
            ring.remove(3);
            ring.cut(0, home, true);
            due.is("home " + home + " is cut off", 0, ring.handOver(0));
            due.holds("all stays", ring, 0, 1, 1, 1, 0, 0);
            ring.cut(0, home, false);
            ring.power(home, false);
            due.is("home " + home + " is down", 0, ring.handOver(0));
            due.holds("all stays", ring, 0, 1, 1, 1, 0, 0);
            ring.power(home, true);
            ring.cut(0, 4, true);
            due.is("all homes are reached, node 4 is none", 1, ring.handOver(0));
            due.holds("it left", ring, 0, 0, 1, 1, 1, 0);
        }
    }

    private void handOverOfNothing() {
        due.about("How many hints were gone and versions left it.");
        VersionRing ring = Rings.five(2, 0, 0);
        for (int node = 0; node < 5; node++) {
            due.is("nothing to hand over", 0, ring.handOver(node));
        }
        VersionRing late = Rings.five(2, 0, 0);
        late.power(1, false);
        late.put(0, 0, 10, -1);
        late.power(1, true);
        late.get(0, 0, 0);
        late.put(0, 0, 11, 0);
        due.is("a hint that is not taken is gone too", 1, late.handOver(3));
        due.is("it is gone", 0, late.handOver(3) + late.hints(3));
        late.remove(3);
        due.is("a version that two homes have leaves too", 1, late.handOver(0));
        due.holds("the third home took it", late, 1, 0, 1, 1, 1, 0);

        VersionRing most = Rings.five(2, 0, 0);
        most.power(0, false);
        for (int i = 0; i < 40; i++) {
            most.put(1, i % 2 * 16, i, -1);
        }
        most.power(0, true);
        due.is("40 hints", 40, most.handOver(3));
        due.is("node 0 has one of each key", 2, most.count(0, 0) + most.count(0, 16));
    }

    private void handOverByNoNode() {
        due.about("-1 if there is no such node (handOver)");
        VersionRing ring = Rings.five(2, 0, 0);
        for (int wrong : Rings.noNodes()) {
            due.is("handOver(" + wrong + ")", -1, ring.handOver(wrong));
        }
        due.is("the first node", 0, ring.handOver(0));
        due.is("the last node", 0, ring.handOver(4));
    }

    private void handOverWhileDown() {
        due.about("-2 if it is not up (handOver)");
        for (int node = 0; node < 5; node++) {
            VersionRing ring = Rings.five(2, 0, 0);
            ring.power(node, false);
            due.is("handOver(" + node + ")", -2, ring.handOver(node));
            due.is("another one", 0, ring.handOver((node + 1) % 5));
            ring.power(node, true);
            due.is("handOver(" + node + ") when up again", 0, ring.handOver(node));
        }
    }

    // Promise 11

    private void compareWhatAgrees() {
        due.about("a comparison of a part finds out whether they agree on it; if not, the lower half is compared, "
                + "then the upper half");
        due.is("no tokens", 1, new VersionRing(2, 0, 0).compare(0, 1));
        due.is("no versions", 1, Rings.five(2, 0, 0).compare(0, 1));
        VersionRing full = Rings.full(2, 0, 0);
        for (int a = 0; a < 5; a++) {
            for (int b = a + 1; b < 5; b++) {
                due.is("40 versions that all homes have", 1, full.compare(a, b));
            }
        }
        for (int key = 0; key < 32; key++) {
            VersionRing ring = Rings.missing(key);
            due.is("all but key " + key, 11, ring.compare(1, 0));
            due.is("behind it", 1, ring.compare(1, 0));
        }
    }

    private void compareOneKey() {
        due.about("or, if it is one key, each takes the versions of it that the other one had before");
        VersionRing ring = Rings.split();
        ring.cut(0, 1, false);
        due.is("each has one", 11, ring.compare(0, 1));
        due.holds("both have both", ring, 0, 1, 1, 1, 0, 0);
        due.holds("both have both", ring, 1, 1, 1, 1, 0, 0);
        ring.get(0, 0, 0);
        ring.power(1, false);
        ring.put(0, 0, 12, 0);
        ring.power(1, true);
        due.is("node 1 has two older ones", 11, ring.compare(1, 0));
        for (int version = 0; version < 2; version++) {
            due.holds("the older ones left", ring, version, 0, 0, 0, 0, 0);
        }
        due.holds("the newer one came", ring, 2, 1, 1, 1, 0, 0);

        VersionRing two = Rings.missing(0, 1);
        due.is("both keys of the lowest pair", 11, two.compare(0, 1));
        due.is("key 0", 1, two.count(1, 0));
        due.is("key 1", 1, two.count(1, 1));
    }

    private void compareAllKeys() {
        due.about("How many parts were compared.");
        VersionRing ring = Rings.missing(Call.range(0, 31));
        due.is("all keys", 63, ring.compare(0, 1));
        for (int key = 0; key < 32; key++) {
            due.is("count(1, " + key + ")", 1, ring.count(1, key));
        }
        due.is("again", 1, ring.compare(0, 1));
    }

    private void compareNoNodesOrTheSame() {
        due.about("-1 if one of them is no node, or both are the same");
        VersionRing ring = Rings.missing(0);
        for (int wrong : Rings.noNodes()) {
            for (int other : new int[] {LOW, -1, 0, 4, 5, HIGH, wrong}) {
                due.is("compare(" + wrong + ", " + other + ")", -1, ring.compare(wrong, other));
                due.is("compare(" + other + ", " + wrong + ")", -1, ring.compare(other, wrong));
            }
        }
        for (int node = 0; node < 5; node++) {
            due.is("compare(" + node + ", " + node + ")", -1, ring.compare(node, node));
        }
        due.is("the first and the last node", 2, ring.compare(0, 4) + ring.compare(4, 0));
    }

    private void compareWhatIsNotReached() {
        due.about("-2 if the one does not reach the other");
        VersionRing ring = Rings.missing(31);
        ring.cut(1, 0, true);
        due.is("cut", -2, ring.compare(0, 1));
        due.is("cut, the other way", -2, ring.compare(1, 0));
        ring.cut(0, 1, false);
        ring.power(0, false);
        due.is("down", -2, ring.compare(0, 1));
        due.is("down, the other way", -2, ring.compare(1, 0));
        due.is("nothing was brought", 0, ring.count(1, 31));
        ring.power(0, true);
        due.is("reached", 11, ring.compare(0, 1));
    }

    private void compareAnswersTheFirstRefusal() {
        due.about("the first that holds, in the order named, is answered (compare)");
        VersionRing ring = Rings.five(2, 0, 0);
        Rings.turn(ring, false, 0, 4);
        due.is("down and the same", -1, ring.compare(0, 0));
        for (int wrong : Rings.noNodes()) {
            due.is("down and " + wrong, -1, ring.compare(0, wrong));
            due.is(wrong + " and down", -1, ring.compare(wrong, 4));
        }
        due.is("both down", -2, ring.compare(0, 4));
    }
}
