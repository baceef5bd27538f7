/** Each sentence under promises 12 to 19 that names a boundary case has a test of its own here. */
public final class QuestionsEdgeTest {
    private static final int LOW = Rings.LOW;
    private static final int HIGH = Rings.HIGH;

    private final Due due = new Due("QuestionsEdgeTest");

    public static void main(String[] args) {
        QuestionsEdgeTest test = new QuestionsEdgeTest();
        test.homeOfNoKey();
        test.homeNotSoMany();
        test.homeBelow0();
        test.targetsOfNoNode();
        test.targetsOfNoKey();
        test.targetsOfDownNode();
        test.holdsBoth();
        test.holdsOfNoNode();
        test.holdsOfNoVersion();
        test.countWithoutHints();
        test.countOfNoNode();
        test.countOfNoKey();
        test.hintsOfNoNode();
        test.hintsFromNoneToAll();
        test.versionsFromNoneToAll();
        test.versionOfEachKind();
        test.versionOfNoVersion();
        test.versionOfNoKind();
        test.contextOfNoContext();
        test.contextOfNoNode();
        test.contextThatIsEmpty();
        test.questionsChangeNothing();
        test.noneIsBelow0();
        test.due.end();
    }

    private void homeOfNoKey() {
        due.about("NONE if there is no such key (home)");
        VersionRing ring = Rings.five(2, 0, 0);
        for (int wrong : Rings.noKeys()) {
            for (int k : new int[] {LOW, -1, 0, 1, 2, 3, HIGH}) {
                due.is("home(" + wrong + ", " + k + ")", -1, ring.home(wrong, k));
            }
        }
        due.is("the first key", 0, ring.home(0, 0));
        due.is("the last key", 0, ring.home(31, 0));
    }

    private void homeNotSoMany() {
        due.about("or it has not so many");
        for (int n = 0; n < 3; n++) {
            for (int nodes = 0; nodes <= 5; nodes++) {
                VersionRing ring = new VersionRing(n, 0, 0);
                for (int node = 0; node < nodes; node++) {
                    ring.token(node, 3 + node);
                }
                int homes = Math.min(nodes, n + 1);
                for (int k : new int[] {0, 1, 2, 3, 4, 5, 6, 16, HIGH}) {
                    String call = "n " + n + ", " + nodes + " nodes: home(0, " + k + ")";
                    due.is(call, k < homes ? k : -1, ring.home(0, k));
                }
            }
        }
    }

    private void homeBelow0() {
        due.about("or k is negative (home)");
        VersionRing ring = Rings.five(2, 0, 0);
        for (int key = 0; key < 32; key++) {
            for (int k : new int[] {LOW, LOW + 1, -3, -2, -1}) {
                due.is("home(" + key + ", " + k + ")", -1, ring.home(key, k));
            }
        }
    }

    private void targetsOfNoNode() {
        due.about("0 if there is no such node or key (targets, node)");
        VersionRing ring = Rings.five(2, 0, 0);
        for (int wrong : Rings.noNodes()) {
            for (int key : new int[] {-1, 0, 31, 32}) {
                due.is("targets(" + wrong + ", " + key + ")", 0, ring.targets(wrong, key));
            }
        }
        due.is("the first and the last node", 6, ring.targets(0, 0) + ring.targets(4, 0));
    }

    private void targetsOfNoKey() {
        due.about("0 if there is no such node or key (targets, key)");
        VersionRing ring = Rings.five(2, 0, 0);
        for (int wrong : Rings.noKeys()) {
            for (int node = 0; node < 5; node++) {
                due.is("targets(" + node + ", " + wrong + ")", 0, ring.targets(node, wrong));
            }
        }
        due.is("the first and the last key", 6, ring.targets(0, 0) + ring.targets(0, 31));
    }

    private void targetsOfDownNode() {
        due.about("or c is not up");
        for (int node = 0; node < 5; node++) {
            VersionRing ring = Rings.five(2, 0, 0);
            ring.power(node, false);
            for (int key = 0; key < 32; key++) {
                due.is("targets(" + node + ", " + key + ")", 0, ring.targets(node, key));
            }
            due.is("another one", 3, ring.targets((node + 1) % 5, 0));
            ring.power(node, true);
            due.is("targets(" + node + ", 0), up again", 3, ring.targets(node, 0));
        }
    }

    private void holdsBoth() {
        due.about("1 if the node has the version, + 2 if it has a hint of it");
        VersionRing ring = Rings.five(2, 0, 0);
        ring.power(0, false);
        ring.put(1, 0, 10, -1);
        due.holds("neither, or one of both", ring, 0, 0, 1, 1, 2, 0);
        ring.remove(3);
        ring.get(1, 0, 0);
        due.holds("node 3 is a home now, with a hint still", ring, 0, 0, 1, 1, 3, 0);
        ring.power(0, true);
        ring.handOver(3);
        due.holds("the hint is gone", ring, 0, 1, 1, 1, 1, 0);
    }

    private void holdsOfNoNode() {
        due.about("NONE if there is no such node or version (holds, node)");
        VersionRing ring = Rings.full(2, 0, 0);
        for (int wrong : Rings.noNodes()) {
            for (int version : new int[] {-1, 0, 39, 40}) {
                due.is("holds(" + wrong + ", " + version + ")", -1, ring.holds(wrong, version));
            }
        }
        due.is("the first node", 1, ring.holds(0, 32));
        due.is("the last node", 0, ring.holds(4, 32));
    }

    private void holdsOfNoVersion() {
        due.about("NONE if there is no such node or version (holds, version)");
        VersionRing ring = Rings.five(2, 0, 0);
        for (int made = 0; made <= 40; made++) {
            for (int wrong : new int[] {LOW, -1, made, made + 1, 40, 41, HIGH}) {
                due.is(made + " made: holds(0, " + wrong + ")", -1, ring.holds(0, wrong));
            }
            if (made > 0) {
                due.is(made + " made: the last one", 1, ring.holds(0, made - 1));
            }
            ring.put(0, 0, made, -1);
        }
    }

    private void countWithoutHints() {
        due.about("How many versions of a key a node has (hints are none)");
        VersionRing ring = Rings.five(2, 0, 0);
        ring.power(0, false);
        for (int i = 1; i <= 3; i++) {
            ring.put(i, 0, i, -1);
            due.is("hints alone", 0, ring.count(3, 0));
            due.is("side by side", i, ring.count(1, 0));
            due.is("down", 0, ring.count(0, 0));
            due.is("of another key", 0, ring.count(1, 16));
        }
        due.is("hints(3)", 3, ring.hints(3));
    }

    private void countOfNoNode() {
        due.about("NONE if there is no such node or key (count, node)");
        VersionRing ring = Rings.full(2, 0, 0);
        for (int wrong : Rings.noNodes()) {
            for (int key : new int[] {-1, 0, 31, 32}) {
                due.is("count(" + wrong + ", " + key + ")", -1, ring.count(wrong, key));
            }
        }
        due.is("the first node", 1, ring.count(0, 0));
        due.is("the last node", 0, ring.count(4, 0));
    }

    private void countOfNoKey() {
        due.about("NONE if there is no such node or key (count, key)");
        VersionRing ring = Rings.full(2, 0, 0);
        for (int wrong : Rings.noKeys()) {
            for (int node = 0; node < 5; node++) {
                due.is("count(" + node + ", " + wrong + ")", -1, ring.count(node, wrong));
            }
        }
        due.is("the first key", 1, ring.count(0, 0));
        due.is("the last key", 1, ring.count(0, 31));
    }

    private void hintsOfNoNode() {
        due.about("NONE if there is no such node (hints)");
        VersionRing ring = Rings.five(2, 0, 0);
        for (int wrong : Rings.noNodes()) {
            due.is("hints(" + wrong + ")", -1, ring.hints(wrong));
        }
        due.is("the first node", 0, ring.hints(0));
        due.is("the last node", 0, ring.hints(4));
    }

    private void hintsFromNoneToAll() {
        due.about("How many hints a node has");
        VersionRing ring = Rings.five(2, 0, 0);
        Rings.turn(ring, false, 0, 1);
        for (int i = 0; i < 40; i++) {
            due.is("hints(3)", i, ring.hints(3));
            due.is("hints(4)", i, ring.hints(4));
            ring.put(2, 0, i, -1);
        }
        due.is("hints(3), all versions", 40, ring.hints(3));
        ring.put(2, 0, 40, -1);
        due.is("hints(4), behind a refused put", 40, ring.hints(4));
        due.is("hints(2), a home", 0, ring.hints(2));
        ring.power(4, false);
        due.is("hints(4), down", 40, ring.hints(4));
        ring.power(0, true);
        ring.handOver(3);
        due.is("hints(3), handed over", 0, ring.hints(3));
    }

    private void versionsFromNoneToAll() {
        due.about("How many versions were made.");
        VersionRing ring = Rings.five(2, 0, 2);
        for (int i = 0; i < 40; i++) {
            due.is("versions()", i, ring.versions());
            ring.put(0, 32, i, -1);
            due.is("versions() behind a refused put", i, ring.versions());
            ring.put(i % 5, 0, i, -1);
        }
        due.is("all", 40, ring.versions());
        ring.put(0, 0, 40, -1);
        due.is("all, behind a refused put", 40, ring.versions());
    }

    private void versionOfEachKind() {
        due.about("its key if what is 5, its value if what is 6, its clock's count for node what if that is 0 .. 4");
        for (int node = 0; node < 5; node++) {
            VersionRing ring = Rings.five(2, 0, 0);
            ring.put(node, 31, -7, -1);
            ring.put(node, 31, HIGH, -1);
            for (int what = 0; what < 5; what++) {
                due.is("version(0, " + what + ")", what == node ? 1 : 0, ring.version(0, what));
                due.is("version(1, " + what + ")", what == node ? 2 : 0, ring.version(1, what));
            }
            due.is("version(0, 5)", 31, ring.version(0, 5));
            due.is("version(0, 6)", -7, ring.version(0, 6));
            due.is("version(1, 6)", HIGH, ring.version(1, 6));
            due.is("no node has version 0", 0, ring.holds(0, 0) + ring.holds(1, 0) + ring.holds(2, 0));
        }
    }

    private void versionOfNoVersion() {
        due.about("0 if there is no such version");
        VersionRing ring = Rings.five(2, 0, 0);
        for (int made = 0; made <= 40; made++) {
            for (int wrong : new int[] {LOW, -1, made, 40, HIGH}) {
                due.is(made + " made: version(" + wrong + ", 6)", 0, ring.version(wrong, 6));
            }
            ring.put(0, 31, 9, -1);
        }
        due.is("the first one", 9, ring.version(0, 6));
        due.is("the last one", 9, ring.version(39, 6));
        for (int what : new int[] {LOW, -1, 0, 4, 5, 6, 7, HIGH}) {
            due.is("version(-1, " + what + ")", 0, ring.version(-1, what));
            due.is("version(40, " + what + ")", 0, ring.version(40, what));
        }
    }

    private void versionOfNoKind() {
        due.about("or what is none of these");
        VersionRing ring = Rings.five(2, 0, 0);
        for (int i = 0; i < 40; i++) {
            ring.put(i % 5, 31, 1 + i, -1);
        }
        for (int version : new int[] {0, 1, 38, 39}) {
            for (int what : new int[] {LOW, LOW + 1, -5, -2, -1, 7, 8, 31, HIGH}) {
                due.is("version(" + version + ", " + what + ")", 0, ring.version(version, what));
            }
        }
    }

    private void contextOfNoContext() {
        due.about("NONE if there is no such context or node (context, context)");
        VersionRing ring = Rings.five(2, 0, 0);
        fillContexts(ring);
        for (int wrong : Rings.noContexts()) {
            for (int node = -1; node <= 5; node++) {
                due.is("context(" + wrong + ", " + node + ")", -1, ring.context(wrong, node));
            }
        }
        due.is("the first context", 0, ring.context(0, 0));
        due.is("the last context", 0, ring.context(3, 0));
    }

    private void contextOfNoNode() {
        due.about("NONE if there is no such context or node (context, node)");
        VersionRing ring = Rings.five(2, 0, 0);
        fillContexts(ring);
        for (int context = 0; context < 4; context++) {
            for (int wrong : Rings.noNodes()) {
                due.is("context(" + context + ", " + wrong + ")", -1, ring.context(context, wrong));
            }
            due.is("the first and the last node", 0, ring.context(context, 0) + ring.context(context, 4));
        }
    }

    private static void fillContexts(VersionRing ring) {
        for (int context = 0; context < 4; context++) {
            ring.get(0, 0, context);
        }
    }

    private void contextThatIsEmpty() {
        due.about("or the context is empty");
        for (int context = 0; context < 4; context++) {
            VersionRing ring = Rings.five(2, 0, 0);
            due.knows("a new object", ring, context, -1, -1, -1, -1, -1);
            ring.put(0, 0, 1, context);
            due.knows("behind a put", ring, context, -1, -1, -1, -1, -1);
            due.is("refused get", -1, ring.get(5, 0, context));
            due.knows("behind a refused get", ring, context, -1, -1, -1, -1, -1);
            ring.get(0, 0, (context + 1) % 4);
            due.knows("behind a get with another context", ring, context, -1, -1, -1, -1, -1);
            ring.get(0, 5, context);
            due.knows("behind a get that found nothing", ring, context, 0, 0, 0, 0, 0);
        }
    }

    /** Asked in the midst of a run, the questions leave the run as it is. */
    private void questionsChangeNothing() {
        due.about("Nothing is promised beyond the answers and state changes described above");
        VersionRing ring = Rings.split();
        due.is("get", 2, ring.get(2, 0, 0));
        ring.home(1, 0);
        ring.targets(4, 1);
        ring.count(4, 31);
        ring.compare(3, 4);
        due.is("found(1)", 1, ring.found(1));
        due.is("repaired()", 2, ring.repaired());
        due.is("put", 2, ring.put(2, 0, 12, 0));
        due.clock("with the context of the get", ring, 2, 1, 1, 1, 0, 0);
        due.holds("to the homes of its key", ring, 2, 1, 1, 1, 0, 0);
    }

    private void noneIsBelow0() {
        due.about("`NONE = -1`: The answer to questions about what is not there.");
        VersionRing ring = new VersionRing(2, 0, 0);
        due.is("NONE", -1, VersionRing.NONE);
        due.is("found(0)", VersionRing.NONE, ring.found(0));
        due.is("home(0, 0)", VersionRing.NONE, ring.home(0, 0));
        due.is("context(0, 0)", VersionRing.NONE, ring.context(0, 0));
    }
}
