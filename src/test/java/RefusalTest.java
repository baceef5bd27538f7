import java.util.ArrayList;
import java.util.List;
import java.util.Map;
import java.util.TreeMap;

/**
 * "A call that is refused changes nothing": every call of the face is made with each edge in each place, in objects
 * of five kinds. Its answer is that of the model; and if it was refused, or is a question, all later answers are
 * those of an object on which it was not made. All of this stays below 512 calls on each object.
 */
public final class RefusalTest {
    private static final int LOW = Rings.LOW;
    private static final int HIGH = Rings.HIGH;
    private static final int[] NODE = {LOW, -1, 0, 2, 3, 4, 5, HIGH};
    private static final int[] KEY = {LOW, -1, 0, 1, 31, 32, HIGH};
    private static final int[] POSITION = {LOW, -1, 0, 3, 15, 16, HIGH};
    private static final int[] CONTEXT = {LOW, -2, -1, 0, 1, 3, 4, HIGH};
    private static final int[] PLACE = {LOW, -1, 0, 1, 2, 3, HIGH};
    private static final int[] VERSION = {LOW, -1, 0, 1, 7, 8, 39, 40, HIGH};
    private static final int[] WHAT = {LOW, -1, 0, 4, 5, 6, 7, HIGH};
    private static final int[] ON = {0, 1};

    private final Due due = new Due("RefusalTest");
    private final Map<String, Integer> refusals = new TreeMap<>();
    private final List<Call> grid = grid();
    private final List<Call> later = later();

    public static void main(String[] args) {
        RefusalTest test = new RefusalTest();
        test.due.about("A call that is refused changes nothing.");
        test.check("a new object", 1, List.of());
        test.check("an object in use", 1, inUse());
        test.check("all versions made", 1, full());
        test.check("too few targets", 2, few());
        test.check("no tokens any more", 0, noTokens());
        test.checkThatAllRefusalsWereMet();
        test.due.end();
    }

    private static List<Call> grid() {
        List<Call> calls = new ArrayList<>();
        calls.addAll(Call.each("token", NODE, POSITION));
        calls.addAll(Call.each("remove", POSITION));
        calls.addAll(Call.each("power", NODE, ON));
        calls.addAll(Call.each("cut", NODE, NODE, ON));
        calls.addAll(Call.each("put", NODE, KEY, new int[] {LOW, 77}, CONTEXT));
        calls.addAll(Call.each("get", NODE, KEY, CONTEXT));
        calls.addAll(Call.each("found", PLACE));
        calls.addAll(Call.each("repaired"));
        calls.addAll(Call.each("handOver", NODE));
        calls.addAll(Call.each("compare", NODE, NODE));
        calls.addAll(Call.each("home", KEY, PLACE));
        calls.addAll(Call.each("targets", NODE, KEY));
        calls.addAll(Call.each("holds", NODE, VERSION));
        calls.addAll(Call.each("count", NODE, KEY));
        calls.addAll(Call.each("hints", NODE));
        calls.addAll(Call.each("versions"));
        calls.addAll(Call.each("version", VERSION, WHAT));
        calls.addAll(Call.each("context", CONTEXT, NODE));
        return calls;
    }

    /** All that questions show, and then calls that bring to light what no question shows: lines, keys of contexts. */
    private static List<Call> later() {
        int[] nodes = Call.range(0, 4);
        List<Call> calls = new ArrayList<>();
        calls.addAll(Call.each("versions"));
        calls.addAll(Call.each("repaired"));
        calls.addAll(Call.each("found", Call.range(0, 3)));
        calls.addAll(Call.each("hints", nodes));
        calls.addAll(Call.each("context", Call.range(0, 3), nodes));
        calls.addAll(Call.each("home", Call.range(0, 15), new int[] {0}));
        calls.addAll(Call.each("targets", nodes, new int[] {0, 1, 31}));
        calls.addAll(Call.each("holds", nodes, new int[] {0, 1, 2, 3, 4, 5, 6, 7, 8, 20, 39}));
        calls.addAll(Call.each("version", new int[] {0, 1, 7, 8, 39}, Call.range(0, 6)));
        calls.addAll(Call.each("power", nodes, new int[] {1}));
        calls.addAll(Call.each("cut", nodes, nodes, new int[] {0}));
        calls.addAll(Call.each("put", new int[] {1}, new int[] {0, 31}, new int[] {5}, Call.range(0, 3)));
        calls.addAll(Call.each("version", Call.range(0, 12), new int[] {1}));
        calls.addAll(Call.each("handOver", nodes));
        calls.addAll(Call.each("compare", nodes, nodes));
        calls.addAll(Call.each("get", new int[] {0}, new int[] {0, 31}, new int[] {0}));
        calls.addAll(Call.each("count", nodes, new int[] {0, 1, 31}));
        return calls;
    }

    private static List<Call> fiveTokens() {
        List<Call> calls = new ArrayList<>();
        for (int node = 0; node < 5; node++) {
            calls.add(new Call("token", node, 3 + 2 * node));
        }
        return calls;
    }

    /** Versions side by side, hints for two nodes, two contexts, a repair; node 2 is down and a line is cut. */
    private static List<Call> inUse() {
        List<Call> calls = fiveTokens();
        calls.add(new Call("put", 0, 0, 10, -1));
        calls.add(new Call("put", 4, 1, 11, -1));
        calls.add(new Call("power", 0, 0));
        calls.add(new Call("put", 1, 0, 12, -1));
        calls.add(new Call("put", 3, 0, 13, -1));
        calls.add(new Call("power", 0, 1));
        calls.add(new Call("power", 1, 0));
        calls.add(new Call("put", 0, 0, 14, -1));
        calls.add(new Call("put", 4, 31, 15, -1));
        calls.add(new Call("power", 1, 1));
        calls.add(new Call("get", 4, 1, 1));
        calls.add(new Call("get", 4, 0, 0));
        calls.add(new Call("put", 2, 31, 16, -1));
        calls.add(new Call("power", 2, 0));
        calls.add(new Call("cut", 0, 3, 1));
        return calls;
    }

    private static List<Call> full() {
        List<Call> calls = inUse();
        for (int i = 0; i < 40; i++) {
            calls.add(new Call("put", i % 2, i % 32, i, -1));
        }
        return calls;
    }

    private static List<Call> few() {
        List<Call> calls = fiveTokens();
        calls.add(new Call("put", 0, 0, 10, -1));
        calls.add(new Call("get", 1, 0, 0));
        calls.add(new Call("put", 1, 31, 11, -1));
        calls.add(new Call("get", 0, 31, 3));
        calls.add(new Call("power", 3, 0));
        calls.add(new Call("cut", 0, 1, 1));
        calls.add(new Call("cut", 0, 2, 1));
        calls.add(new Call("cut", 2, 4, 1));
        return calls;
    }

    private static List<Call> noTokens() {
        List<Call> calls = inUse();
        calls.addAll(Call.each("remove", Call.range(0, 15)));
        return calls;
    }

    private void check(String when, int least, List<Call> before) {
        for (Call call : grid) {
            VersionRing ring = new VersionRing(2, least, least);
            VersionRing without = new VersionRing(2, least, least);
            Model model = new Model(2, least, least);
            for (Call earlier : before) {
                earlier.on(ring);
                earlier.on(without);
                earlier.on(model);
            }
            int want = call.on(model);
            due.is(when + ": " + call, want, call.on(ring));
            boolean refused = isRefused(call, want);
            if (refused) {
                refusals.merge(call.name() + " " + want, 1, Integer::sum);
            }
            for (Call next : later) {
                int then = refused || isQuestion(call) ? next.on(without) : next.on(model);
                due.is(when + ": " + next + " behind " + call, then, next.on(ring));
            }
        }
    }

    private static boolean isRefused(Call call, int answer) {
        return switch (call.name()) {
            case "token", "remove", "power", "cut" -> answer == 0;
            case "put", "get", "handOver", "compare" -> answer < 0;
            default -> false;
        };
    }

    private static boolean isQuestion(Call call) {
        return switch (call.name()) {
            case "token", "remove", "power", "cut", "put", "get", "handOver", "compare" -> false;
            default -> true;
        };
    }

    /** A refusal that no object came to would have changed nothing for that reason alone. */
    private void checkThatAllRefusalsWereMet() {
        for (String kind : List.of("token 0", "remove 0", "power 0", "cut 0", "put -1", "put -2", "put -3", "put -4",
                "get -1", "get -2", "get -3", "handOver -1", "handOver -2", "compare -1", "compare -2")) {
            due.yes(kind + " was met", refusals.containsKey(kind));
        }
    }
}
