import java.util.ArrayList;
import java.util.Arrays;
import java.util.List;
import java.util.Map;
import java.util.Random;
import java.util.TreeMap;

/**
 * Runs of calls drawn with fixed seeds, asked of the program and of the model, with all that can be seen of both.
 * To see all takes more calls than the document promises anything about, so it is seen on several objects, each of
 * which the same run was played on.
 */
public final class ModelTest {
    private static final int PROMISED_CALLS = 512;
    private static final int RUNS = 1000;
    private static final int CALLS = 240;
    private static final int MOST_WRONG = 20;
    private static final String[] OFTEN = {"power", "cut", "cut", "put", "put", "put", "put", "get", "get", "get",
        "handOver", "handOver", "compare", "compare"};
    private static final String[] SELDOM = {"token", "token", "remove"};

    private final Due due = new Due("ModelTest");
    private final Map<String, Integer> met = new TreeMap<>();
    private final List<Call> questions = questions();
    private final List<Call> played = new ArrayList<>();
    private Random random;
    private int[] sizes;
    private VersionRing ring;
    private Model model;
    private String run;
    private int keys;
    private int wildness;

    public static void main(String[] args) {
        ModelTest test = new ModelTest();
        for (int seed = 0; seed < RUNS && test.due.wrongOnes() < MOST_WRONG; seed++) {
            test.play(seed);
        }
        test.checkThatRunsMeetMuch();
        test.due.end();
    }

    private static List<Call> questions() {
        int[] nodes = Call.range(-1, 5);
        int[] allKeys = Call.range(-1, 32);
        int[] versions = Call.range(-1, 40);
        List<Call> calls = new ArrayList<>();
        calls.addAll(Call.each("versions"));
        calls.addAll(Call.each("repaired"));
        calls.addAll(Call.each("found", Call.range(-2, 41)));
        calls.addAll(Call.each("hints", nodes));
        calls.addAll(Call.each("holds", nodes, versions));
        calls.addAll(Call.each("count", nodes, allKeys));
        calls.addAll(Call.each("targets", nodes, allKeys));
        calls.addAll(Call.each("context", Call.range(-1, 4), nodes));
        calls.addAll(Call.each("home", allKeys, Call.range(-1, 3)));
        calls.addAll(Call.each("version", versions, Call.range(-1, 7)));
        return calls;
    }

    private void play(int seed) {
        random = new Random(seed);
        sizes = new int[] {random.nextInt(9) - 4, random.nextInt(9) - 4, random.nextInt(9) - 4};
        ring = newRing();
        model = new Model(sizes[0], sizes[1], sizes[2]);
        played.clear();
        run = "seed " + seed + " " + Arrays.toString(sizes);
        keys = 1 + random.nextInt(random.nextBoolean() ? 3 : 32);
        wildness = 5 + random.nextInt(60);
        int tokens = 3 + random.nextInt(8);
        for (int i = 0; i < tokens; i++) {
            step("token");
        }
        for (int call = 0; call < CALLS && due.wrongOnes() < MOST_WRONG; call++) {
            step(random.nextInt(10) == 0 ? oneOf(SELDOM) : oneOf(OFTEN));
            if (call % 12 == 0) {
                compareAll(call);
            }
        }
        compareAll(CALLS);
    }

    private VersionRing newRing() {
        return new VersionRing(sizes[0], sizes[1], sizes[2]);
    }

    private String oneOf(String[] names) {
        return names[random.nextInt(names.length)];
    }

    /** A number from 0 on, and now and then the one below it, one in the middle, or the first that is too large. */
    private int number(int end) {
        return random.nextInt(wildness) == 0 ? random.nextInt(3) * (end + 1) / 2 - 1 : random.nextInt(end);
    }

    private int key() {
        return random.nextInt(wildness) == 0 ? number(32) : (31 * random.nextInt(keys)) & 31;
    }

    private int bit() {
        return random.nextInt(2);
    }

    private void step(String name) {
        ask(switch (name) {
            case "token" -> new Call(name, number(5), number(16));
            case "remove" -> new Call(name, number(16));
            case "power" -> new Call(name, number(5), bit());
            case "cut" -> new Call(name, number(5), number(5), bit());
            case "put" -> new Call(name, number(5), key(), random.nextInt(), bit() == 0 ? -1 : number(4));
            case "get" -> new Call(name, number(5), key(), number(4));
            case "handOver" -> new Call(name, number(5));
            default -> new Call(name, number(5), number(5));
        });
    }

    private void ask(Call call) {
        int want = call.on(model);
        due.is(run + " " + call, want, call.on(ring));
        played.add(call);
        if (want < 0) {
            met.merge(call.name() + " " + want, 1, Integer::sum);
        }
        noteIf(call.name().equals("get") && want > 1, "get of several");
        noteIf(call.name().equals("get") && want >= 0 && model.repaired() > 0, "get that repairs");
        noteIf(call.name().equals("handOver") && want > 0, "handOver of some");
        noteIf(call.name().equals("compare") && want > 11, "compare of several keys");
    }

    private void noteIf(boolean so, String what) {
        if (so) {
            met.merge(what, 1, Integer::sum);
        }
    }

    private void compareAll(int call) {
        int most = PROMISED_CALLS - played.size();
        for (int first = 0; first < questions.size(); first += most) {
            VersionRing same = newRing();
            played.forEach(earlier -> earlier.on(same));
            for (Call question : questions.subList(first, Math.min(first + most, questions.size()))) {
                int want = question.on(model);
                int got = question.on(same);
                due.is(want == got ? "" : run + " after call " + call + ": " + question, want, got);
            }
        }
    }

    /** Runs that never came to a refusal, a repair or a hand-over would say nothing about them. */
    private void checkThatRunsMeetMuch() {
        for (String what : List.of("put -1", "put -2", "put -3", "put -4", "get -1", "get -2", "get -3", "handOver -1",
                "handOver -2", "compare -1", "compare -2", "get of several", "get that repairs", "handOver of some",
                "compare of several keys")) {
            int times = met.getOrDefault(what, 0);
            due.yes("often enough, " + what + ": " + times, times > 100);
        }
    }
}
