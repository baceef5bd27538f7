import java.util.ArrayList;
import java.util.Arrays;
import java.util.List;

/** One call of the face with its arguments, to ask the program or the model; a boolean counts 1 or 0. */
record Call(String name, int... args) {
    int on(VersionRing ring) {
        return switch (name) {
            case "token" -> bit(ring.token(args[0], args[1]));
            case "remove" -> bit(ring.remove(args[0]));
            case "power" -> bit(ring.power(args[0], args[1] == 1));
            case "cut" -> bit(ring.cut(args[0], args[1], args[2] == 1));
            case "put" -> ring.put(args[0], args[1], args[2], args[3]);
            case "get" -> ring.get(args[0], args[1], args[2]);
            case "found" -> ring.found(args[0]);
            case "repaired" -> ring.repaired();
            case "handOver" -> ring.handOver(args[0]);
            case "compare" -> ring.compare(args[0], args[1]);
            case "home" -> ring.home(args[0], args[1]);
            case "targets" -> ring.targets(args[0], args[1]);
            case "holds" -> ring.holds(args[0], args[1]);
            case "count" -> ring.count(args[0], args[1]);
            case "hints" -> ring.hints(args[0]);
            case "versions" -> ring.versions();
            case "version" -> ring.version(args[0], args[1]);
            case "context" -> ring.context(args[0], args[1]);
            default -> throw new IllegalStateException(name);
        };
    }

    int on(Model model) {
        return switch (name) {
            case "token" -> bit(model.token(args[0], args[1]));
            case "remove" -> bit(model.remove(args[0]));
            case "power" -> bit(model.power(args[0], args[1] == 1));
            case "cut" -> bit(model.cut(args[0], args[1], args[2] == 1));
            case "put" -> model.put(args[0], args[1], args[2], args[3]);
            case "get" -> model.get(args[0], args[1], args[2]);
            case "found" -> model.found(args[0]);
            case "repaired" -> model.repaired();
            case "handOver" -> model.handOver(args[0]);
            case "compare" -> model.compare(args[0], args[1]);
            case "home" -> model.home(args[0], args[1]);
            case "targets" -> model.targets(args[0], args[1]);
            case "holds" -> model.holds(args[0], args[1]);
            case "count" -> model.count(args[0], args[1]);
            case "hints" -> model.hints(args[0]);
            case "versions" -> model.versions();
            case "version" -> model.version(args[0], args[1]);
            case "context" -> model.context(args[0], args[1]);
            default -> throw new IllegalStateException(name);
        };
    }

    private static int bit(boolean answer) {
        return answer ? 1 : 0;
    }

    /** The call with each of these arguments in each place. */
    static List<Call> each(String name, int[]... places) {
        List<Call> calls = List.of(new Call(name));
        for (int[] place : places) {
            List<Call> longer = new ArrayList<>();
            for (Call call : calls) {
                for (int argument : place) {
                    longer.add(call.with(argument));
                }
            }
            calls = longer;
        }
        return calls;
    }

    private Call with(int argument) {
        int[] more = Arrays.copyOf(args, args.length + 1);
        more[args.length] = argument;
        return new Call(name, more);
    }

    static int[] range(int first, int last) {
        int[] row = new int[last - first + 1];
        for (int i = 0; i < row.length; i++) {
            row[i] = first + i;
        }
        return row;
    }

    @Override
    public String toString() {
        String text = Arrays.toString(args);
        return name + "(" + text.substring(1, text.length() - 1) + ")";
    }
}
