import java.util.ArrayList;
import java.util.HashMap;
import java.util.List;
import java.util.Map;
import java.util.TreeSet;

/** The document once more, written word by word with sets and lists, to compare the program with. */
final class Model {
    static final class Version {
        int key;
        int value;
        int writer;
        int[] clock;
    }

    record Hint(int version, int node) implements Comparable<Hint> {
        @Override
        public int compareTo(Hint other) {
            return version != other.version ? version - other.version : node - other.node;
        }
    }

    final int n;
    final int r;
    final int w;
    final Map<Integer, Integer> tokens = new HashMap<>();
    final TreeSet<Integer> down = new TreeSet<>();
    final TreeSet<String> cuts = new TreeSet<>();
    final List<Version> made = new ArrayList<>();
    final List<TreeSet<Integer>> has = new ArrayList<>();
    final List<TreeSet<Hint>> hintsOf = new ArrayList<>();
    final Map<Integer, Integer> contextKeys = new HashMap<>();
    final Map<Integer, int[]> contextClocks = new HashMap<>();
    List<Integer> latest = List.of();
    int repairs;

    Model(int n, int r, int w) {
        int[] sizes = {1, 2, 3, 3};
        this.n = sizes[n & 3];
        this.r = Math.min(this.n, (r & 3) + 1);
        this.w = Math.min(this.n, (w & 3) + 1);
        for (int node = 0; node < 5; node++) {
            has.add(new TreeSet<>());
            hintsOf.add(new TreeSet<>());
        }
    }

    static boolean in(int x, int end) {
        return 0 <= x && x < end;
    }

    boolean token(int node, int position) {
        return in(node, 5) && in(position, 16) && tokens.putIfAbsent(position, node) == null;
    }

    boolean remove(int position) {
        return tokens.remove(position) != null;
    }

    boolean power(int node, boolean up) {
        return in(node, 5) && (up ? down.remove(node) : down.add(node));
    }

    boolean cut(int a, int b, boolean on) {
        if (!in(a, 5) || !in(b, 5) || a == b) {
            return false;
        }
        return on ? cuts.add(line(a, b)) : cuts.remove(line(a, b));
    }

    static String line(int a, int b) {
        return a < b ? a + "-" + b : b + "-" + a;
    }

    boolean reaches(int a, int b) {
        if (down.contains(a) || down.contains(b)) {
            return false;
        }
        return a == b || !cuts.contains(line(a, b));
    }

    List<Integer> list(int key) {
        List<Integer> nodes = new ArrayList<>();
        int position = (5 * key + 3) % 16;
        for (int i = 0; i < 16; i++) {
            Integer node = tokens.get(position);
            if (node != null && !nodes.contains(node)) {
                nodes.add(node);
            }
            position = position == 15 ? 0 : position + 1;
        }
        return nodes;
    }

    List<Integer> homes(int key) {
        List<Integer> list = list(key);
        return list.subList(0, Math.min(n, list.size()));
    }

    List<Integer> targetsOf(int c, int key) {
        List<Integer> targets = new ArrayList<>(list(key));
        targets.removeIf(node -> !reaches(c, node));
        return targets.subList(0, Math.min(n, targets.size()));
    }

    static boolean atOrBelow(int[] one, int[] other) {
        for (int node = 0; node < 5; node++) {
            if (one[node] > other[node]) {
                return false;
            }
        }
        return true;
    }

    int[] clock(int version) {
        return made.get(version).clock;
    }

    TreeSet<Integer> ofKey(int node, int key) {
        TreeSet<Integer> some = new TreeSet<>(has.get(node));
        some.removeIf(version -> made.get(version).key != key);
        return some;
    }

    void take(int node, int version) {
        TreeSet<Integer> same = ofKey(node, made.get(version).key);
        for (int old : same) {
            if (atOrBelow(clock(version), clock(old))) {
                return;
            }
        }
        same.removeIf(old -> !atOrBelow(clock(old), clock(version)));
        has.get(node).removeAll(same);
        has.get(node).add(version);
    }

    int put(int c, int key, int value, int context) {
        if (!in(c, 5) || !in(key, 32) || !(context == -1 || in(context, 4))) {
            return -1;
        }
        if (contextKeys.containsKey(context) && contextKeys.get(context) != key) {
            return -1;
        }
        if (down.contains(c)) {
            return -2;
        }
        if (made.size() == 40) {
            return -3;
        }
        List<Integer> targets = targetsOf(c, key);
        if (targets.size() < w) {
            return -4;
        }
        Version version = new Version();
        version.key = key;
        version.value = value;
        version.writer = c;
        version.clock = contextClocks.getOrDefault(context, new int[5]).clone();
        version.clock[c] = 1 + (int) made.stream().filter(v -> v.key == key && v.writer == c).count();
        int number = made.size();
        made.add(version);
        List<Integer> missed = new ArrayList<>(homes(key));
        missed.removeIf(home -> reaches(c, home));
        for (int target : targets) {
            if (homes(key).contains(target)) {
                take(target, number);
            } else {
                hintsOf.get(target).add(new Hint(number, missed.remove(0)));
            }
        }
        return number;
    }

    int get(int c, int key, int context) {
        if (!in(c, 5) || !in(key, 32) || !in(context, 4)) {
            return -1;
        }
        if (down.contains(c)) {
            return -2;
        }
        List<Integer> targets = targetsOf(c, key);
        if (targets.size() < r) {
            return -3;
        }
        TreeSet<Integer> all = new TreeSet<>();
        for (int target : targets) {
            all.addAll(ofKey(target, key));
            hintsOf.get(target).stream().map(Hint::version).filter(v -> made.get(v).key == key).forEach(all::add);
        }
        latest = new ArrayList<>();
        for (int one : all) {
            if (all.stream().noneMatch(other -> other != one && atOrBelow(clock(one), clock(other)))) {
                latest.add(one);
            }
        }
        int[] clock = new int[5];
        for (int node = 0; node < 5; node++) {
            for (int one : latest) {
                clock[node] = Math.max(clock[node], clock(one)[node]);
            }
        }
        contextKeys.put(context, key);
        contextClocks.put(context, clock);
        List<TreeSet<Integer>> before = new ArrayList<>();
        has.forEach(some -> before.add(new TreeSet<>(some)));
        for (int target : targets) {
            if (homes(key).contains(target)) {
                latest.forEach(one -> take(target, one));
            }
        }
        repairs = 0;
        for (int node = 0; node < 5; node++) {
            TreeSet<Integer> fresh = new TreeSet<>(has.get(node));
            fresh.removeAll(before.get(node));
            repairs += fresh.size();
        }
        return latest.size();
    }

    int found(int k) {
        return in(k, latest.size()) ? latest.get(k) : -1;
    }

    int repaired() {
        return repairs;
    }

    int handOver(int node) {
        if (!in(node, 5)) {
            return -1;
        }
        if (down.contains(node)) {
            return -2;
        }
        int gone = 0;
        for (Hint hint : new ArrayList<>(hintsOf.get(node))) {
            if (reaches(node, hint.node)) {
                take(hint.node, hint.version);
                hintsOf.get(node).remove(hint);
                gone++;
            }
        }
        for (int key = 0; key < 32; key++) {
            List<Integer> homes = homes(key);
            TreeSet<Integer> leaving = ofKey(node, key);
            if (homes.contains(node) || homes.isEmpty() || !homes.stream().allMatch(home -> reaches(node, home))) {
                continue;
            }
            for (int home : homes) {
                leaving.forEach(version -> take(home, version));
            }
            has.get(node).removeAll(leaving);
            gone += leaving.size();
        }
        return gone;
    }

    int compare(int a, int b) {
        if (!in(a, 5) || !in(b, 5) || a == b) {
            return -1;
        }
        return reaches(a, b) ? comparePart(a, b, 0, 32) : -2;
    }

    int comparePart(int a, int b, int first, int size) {
        if (agree(a, b, first, size)) {
            return 1;
        }
        if (size == 1) {
            TreeSet<Integer> ofA = ofKey(a, first);
            TreeSet<Integer> ofB = ofKey(b, first);
            ofB.forEach(version -> take(a, version));
            ofA.forEach(version -> take(b, version));
            return 1;
        }
        int half = size / 2;
        int lower = comparePart(a, b, first, half);
        return 1 + lower + comparePart(a, b, first + half, half);
    }

    boolean agree(int a, int b, int first, int size) {
        for (int key = first; key < first + size; key++) {
            if (homes(key).contains(a) && homes(key).contains(b) && !ofKey(a, key).equals(ofKey(b, key))) {
                return false;
            }
        }
        return true;
    }

    int home(int key, int k) {
        return in(key, 32) && in(k, homes(key).size()) ? homes(key).get(k) : -1;
    }

    int targets(int c, int key) {
        return in(c, 5) && in(key, 32) ? targetsOf(c, key).size() : 0;
    }

    int holds(int node, int version) {
        if (!in(node, 5) || !in(version, made.size())) {
            return -1;
        }
        boolean hint = hintsOf.get(node).stream().anyMatch(one -> one.version == version);
        return (has.get(node).contains(version) ? 1 : 0) + (hint ? 2 : 0);
    }

    int count(int node, int key) {
        return in(node, 5) && in(key, 32) ? ofKey(node, key).size() : -1;
    }

    int hints(int node) {
        return in(node, 5) ? hintsOf.get(node).size() : -1;
    }

    int versions() {
        return made.size();
    }

    int version(int version, int what) {
        if (!in(version, made.size()) || !in(what, 7)) {
            return 0;
        }
        Version one = made.get(version);
        return what == 5 ? one.key : what == 6 ? one.value : one.clock[what];
    }

    int context(int context, int node) {
        return in(node, 5) && contextClocks.containsKey(context) ? contextClocks.get(context)[node] : -1;
    }
}
