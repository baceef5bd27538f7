import java.util.Random;

/** Runs of calls drawn with fixed seeds, asked of the program and of the model, with all that can be seen of both. */
public final class ModelTest {
    private static final int RUNS = 1000;
    private static final int CALLS = 160;

    private final Due due = new Due("ModelTest");
    private final int[] answers = new int[9];
    private Random random;
    private VersionRing ring;
    private Model model;
    private String run;
    private int keys;
    private int wildness;

    public static void main(String[] args) {
        ModelTest test = new ModelTest();
        for (int seed = 0; seed < RUNS && test.due.wrongOnes() < 20; seed++) {
            test.play(seed);
        }
        test.checkThatRunsMeetMuch();
        test.due.end();
    }

    private void play(int seed) {
        random = new Random(seed);
        int n = random.nextInt(9) - 4;
        int r = random.nextInt(9) - 4;
        int w = random.nextInt(9) - 4;
        ring = new VersionRing(n, r, w);
        model = new Model(n, r, w);
        run = "seed " + seed + " (" + n + ", " + r + ", " + w + ")";
        keys = 1 + random.nextInt(random.nextBoolean() ? 3 : 32);
        wildness = 5 + random.nextInt(60);
        for (int i = 0; i < 3 + random.nextInt(8); i++) {
            step(0);
        }
        for (int call = 0; call < CALLS && due.wrongOnes() < 20; call++) {
            step(kindOfCall());
            if (call % 8 == 0) {
                compareAll(call);
            }
        }
        compareAll(CALLS);
    }

    private int kindOfCall() {
        int[] often = {2, 3, 4, 4, 4, 4, 5, 5, 5, 6, 6, 7, 7, 3};
        int[] seldom = {0, 0, 1};
        return random.nextInt(10) == 0 ? seldom[random.nextInt(3)] : often[random.nextInt(often.length)];
    }

    private int number(int end) {
        return random.nextInt(wildness) == 0 ? random.nextInt(3) * (end + 1) / 2 - 1 : random.nextInt(end);
    }

    private int key() {
        return random.nextInt(wildness) == 0 ? number(32) : (31 * random.nextInt(keys)) & 31;
    }

    private void step(int kind) {
        int a = number(5);
        int b = number(5);
        int key = key();
        int context = number(4);
        boolean on = random.nextBoolean();
        switch (kind) {
            case 0 -> {
                int position = number(16);
                ask("token(" + a + ", " + position + ")", model.token(a, position), ring.token(a, position));
            }
            case 1 -> {
                int position = number(16);
                ask("remove(" + position + ")", model.remove(position), ring.remove(position));
            }
            case 2 -> ask("power(" + a + ", " + on + ")", model.power(a, on), ring.power(a, on));
            case 3 -> ask("cut(" + a + ", " + b + ", " + on + ")", model.cut(a, b, on), ring.cut(a, b, on));
            case 4 -> put(a, key, random.nextInt(), on ? context : -1);
            case 5 -> ask("get(" + a + ", " + key + ", " + context + ")",
                    model.get(a, key, context), ring.get(a, key, context), 5);
            case 6 -> ask("handOver(" + a + ")", model.handOver(a), ring.handOver(a), 6);
            default -> ask("compare(" + a + ", " + b + ")", model.compare(a, b), ring.compare(a, b), 7);
        }
    }

    private void put(int c, int key, int value, int context) {
        ask("put(" + c + ", " + key + ", " + value + ", " + context + ")",
                model.put(c, key, value, context), ring.put(c, key, value, context), 4);
    }

    private void ask(String call, boolean want, boolean got) {
        due.is(run + " " + call, want ? 1 : 0, got ? 1 : 0);
    }

    private void ask(String call, int want, int got, int kind) {
        due.is(run + " " + call, want, got);
        if (want < 0) {
            answers[-want]++;
        }
        if (kind == 5 && want > 1) {
            answers[5]++;
        }
        if (kind == 5 && model.repaired() > 0) {
            answers[6]++;
        }
        if (kind == 6 && want > 0) {
            answers[7]++;
        }
        if (kind == 7 && want > 11) {
            answers[8]++;
        }
    }

    private void compareAll(int call) {
        String here = run + " after call " + call + ": ";
        due.is(here + "versions()", model.versions(), ring.versions());
        due.is(here + "repaired()", model.repaired(), ring.repaired());
        for (int k = -2; k < 42; k++) {
            due.is(here + "found(" + k + ")", model.found(k), ring.found(k));
        }
        for (int node = -1; node < 6; node++) {
            due.is(here + "hints(" + node + ")", model.hints(node), ring.hints(node));
            for (int version = -1; version < 41; version++) {
                String ends = "(" + node + ", " + version + ")";
                due.is(here + "holds" + ends, model.holds(node, version), ring.holds(node, version));
            }
            for (int key = -1; key < 33; key++) {
                String ends = "(" + node + ", " + key + ")";
                due.is(here + "count" + ends, model.count(node, key), ring.count(node, key));
                due.is(here + "targets" + ends, model.targets(node, key), ring.targets(node, key));
            }
            for (int context = -1; context < 5; context++) {
                String ends = "(" + context + ", " + node + ")";
                due.is(here + "context" + ends, model.context(context, node), ring.context(context, node));
            }
        }
        for (int key = -1; key < 33; key++) {
            for (int k = -1; k < 4; k++) {
                due.is(here + "home(" + key + ", " + k + ")", model.home(key, k), ring.home(key, k));
            }
        }
        for (int version = -1; version < 41; version++) {
            for (int what = -1; what < 8; what++) {
                String ends = "(" + version + ", " + what + ")";
                due.is(here + "version" + ends, model.version(version, what), ring.version(version, what));
            }
        }
    }

    /** Runs that never came to a refusal, a repair or a hand-over would say nothing about them. */
    private void checkThatRunsMeetMuch() {
        for (int what = 1; what <= 8; what++) {
            due.yes("often enough, case " + what + ": " + answers[what], answers[what] > 100);
        }
    }
}
