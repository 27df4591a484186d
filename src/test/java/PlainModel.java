import java.util.ArrayDeque;
import java.util.ArrayList;
import java.util.BitSet;
import java.util.Deque;
import java.util.List;
import java.util.regex.Matcher;
import java.util.regex.Pattern;

/**
 * The document's terms taken literally, run by run and without any memory of earlier runs, for
 * ModelTest to compare with. It keeps statements as their texts, so that it shares no way of
 * reading, running or judging with the class.
 */
final class PlainModel {
    private static final String TEST = "[xyz][=<>#][xyz0-7]";
    private static final String STATEMENT =
            "(?:[xyz]:[xyz0-7](?:[+-][0-7])?|!" + TEST + "|\\?" + TEST + "@(?:1[0-2]|[0-9]))";
    private static final Pattern PROGRAM = Pattern.compile(STATEMENT + "(?:;" + STATEMENT + "){0,11}");

    private record State(List<String> program, List<Integer> bounds) {
    }

    /** How a run ends: 0 success, 1 failure, 2 endless; where it ends; the values there; its steps. */
    private record End(int how, int statement, int[] values, int steps) {
    }

    private List<String> program = List.of();
    private List<Integer> bounds = List.of(0, 7, 0, 7, 0, 7);
    private String buffer = "";
    private final Deque<State> saved = new ArrayDeque<>();

    private void save() {
        saved.addLast(new State(program, bounds));
        if (saved.size() > 6) {
            saved.removeFirst();
        }
    }

    private static boolean isJump(String statement) {
        return statement.startsWith("?");
    }

    private static int number(String jump) {
        return Integer.parseInt(jump.substring(jump.indexOf('@') + 1));
    }

    private int replaceProgram(List<String> before) {
        if (!PROGRAM.matcher(buffer).matches()) {
            throw new IllegalArgumentException();
        }
        List<String> all = new ArrayList<>(before);
        all.addAll(List.of(buffer.split(";")));
        if (all.size() > 12) {
            throw new IllegalArgumentException();
        }
        for (String statement : buffer.split(";")) {
            if (isJump(statement) && number(statement) > all.size()) {
                throw new IllegalArgumentException();
            }
        }
        save();
        program = all;
        buffer = "";
        return all.size();
    }

    int load() {
        return replaceProgram(List.of());
    }

    int add() {
        return replaceProgram(program);
    }

    int removeLast() {
        int size = program.size();
        if (size == 0) {
            throw new IllegalStateException();
        }
        save();
        List<String> left = new ArrayList<>();
        for (String statement : program.subList(0, size - 1)) {
            boolean toTheEnd = isJump(statement) && number(statement) == size;
            left.add(toTheEnd ? statement.replaceAll("@.*", "@" + (size - 1)) : statement);
        }
        program = left;
        return size - 1;
    }

    int statements() {
        return program.size();
    }

    private static void index(int number, int last) {
        if (number < 0 || number > last) {
            throw new IndexOutOfBoundsException();
        }
    }

    private static void range(int... values) {
        for (int value : values) {
            if (value < 0 || value > 7) {
                throw new IllegalArgumentException();
            }
        }
    }

    int kind(int statement) {
        index(statement, program.size() - 1);
        return Math.max(0, "!?".indexOf(program.get(statement).charAt(0)) + 1);
    }

    int target(int statement) {
        index(statement, program.size() - 1);
        return isJump(program.get(statement)) ? number(program.get(statement)) : -1;
    }

    private static int value(char c, int[] values) {
        return c >= 'x' ? values[c - 'x'] : c - '0';
    }

    private static boolean holds(String test, int[] values) {
        int left = value(test.charAt(0), values);
        int right = value(test.charAt(2), values);
        return switch (test.charAt(1)) {
            case '=' -> left == right;
            case '<' -> left < right;
            case '>' -> left > right;
            default -> left != right;
        };
    }

    private static void assign(String text, int[] values) {
        int result = value(text.charAt(2), values);
        if (text.length() > 3) {
            int number = text.charAt(4) - '0';
            result = text.charAt(3) == '+' ? result + number : result - number;
        }
        values[text.charAt(0) - 'x'] = ((result % 8) + 8) % 8;
    }

    private interface Visitor {
        void at(int statement, int[] values);
    }

    private End go(int from, int[] start, Visitor visitor) {
        int[] values = start.clone();
        BitSet seen = new BitSet();
        int statement = from;
        int steps = 0;
        while (true) {
            visitor.at(statement, values);
            if (statement == program.size()) {
                return new End(0, statement, values, steps);
            }
            int place = statement * 512 + values[0] * 64 + values[1] * 8 + values[2];
            if (seen.get(place)) {
                return new End(2, statement, values, steps);
            }
            seen.set(place);
            steps++;
            String text = program.get(statement);
            if (text.charAt(0) == '!') {
                if (!holds(text.substring(1), values)) {
                    return new End(1, statement, values, steps);
                }
                statement++;
            } else if (isJump(text)) {
                statement = holds(text.substring(1), values) ? number(text) : statement + 1;
            } else {
                assign(text, values);
                statement++;
            }
        }
    }

    private End go(int from, int... start) {
        return go(from, start, (statement, values) -> { });
    }

    private static int coded(int[] values) {
        return 64 * values[0] + 8 * values[1] + values[2];
    }

    int run(int x, int y, int z) {
        range(x, y, z);
        End end = go(0, x, y, z);
        return end.how == 0 ? 1000 + coded(end.values) : end.how == 1 ? end.statement : -1;
    }

    int steps(int x, int y, int z) {
        range(x, y, z);
        End end = go(0, x, y, z);
        return end.how == 2 ? -1 : end.steps;
    }

    int demand(int statement) {
        index(statement, program.size());
        int count = 0;
        for (int n = 0; n < 512; n++) {
            count += go(statement, n / 64, n / 8 % 8, n % 8).how == 0 ? 1 : 0;
        }
        return count;
    }

    boolean demands(int statement, int x, int y, int z) {
        index(statement, program.size());
        range(x, y, z);
        return go(statement, x, y, z).how == 0;
    }

    private static List<int[]> triples(List<Integer> bounds) {
        List<int[]> all = new ArrayList<>();
        for (int x = bounds.get(0); x <= bounds.get(1); x++) {
            for (int y = bounds.get(2); y <= bounds.get(3); y++) {
                for (int z = bounds.get(4); z <= bounds.get(5); z++) {
                    all.add(new int[] {x, y, z});
                }
            }
        }
        return all;
    }

    private static List<Integer> with(List<Integer> bounds, int variable, int low, int high) {
        List<Integer> changed = new ArrayList<>(bounds);
        changed.set(2 * variable, low);
        changed.set(2 * variable + 1, high);
        return changed;
    }

    int assume(int variable, int low, int high) {
        index(variable, 2);
        range(low, high, high - low);
        save();
        bounds = with(bounds, variable, low, high);
        return triples(bounds).size();
    }

    private boolean isReached(int wanted) {
        boolean[] reached = {false};
        for (int[] triple : triples(bounds)) {
            go(0, triple, (statement, values) -> reached[0] |= statement == wanted);
        }
        return reached[0];
    }

    int verdict(int statement) {
        index(statement, program.size() - 1);
        if (kind(statement) != 1) {
            return -1;
        }
        return !isReached(statement) ? 0 : example(statement) == -1 ? 1 : 2;
    }

    int example(int statement) {
        index(statement, program.size() - 1);
        for (int[] triple : triples(bounds)) {
            End end = go(0, triple);
            if (end.how == 1 && end.statement == statement) {
                return coded(triple);
            }
        }
        return -1;
    }

    private int runsThatEnd(int how, List<Integer> within) {
        int count = 0;
        for (int[] triple : triples(within)) {
            count += go(0, triple).how == how ? 1 : 0;
        }
        return count;
    }

    int endless() {
        return runsThatEnd(2, bounds);
    }

    private int proof(List<Integer> within) {
        return runsThatEnd(1, within) > 0 ? 2 : runsThatEnd(2, within) > 0 ? 0 : 1;
    }

    int proof() {
        return proof(bounds);
    }

    double provedShare() {
        return (double) runsThatEnd(0, bounds) / (double) triples(bounds).size();
    }

    int least(int statement, int variable) {
        return extreme(statement, variable, 1);
    }

    int greatest(int statement, int variable) {
        return extreme(statement, variable, -1);
    }

    private int extreme(int wanted, int variable, int sign) {
        index(wanted, program.size());
        index(variable, 2);
        int[] found = {100};
        for (int[] triple : triples(bounds)) {
            go(0, triple, (statement, values) -> {
                if (statement == wanted) {
                    found[0] = Math.min(found[0], sign * values[variable]);
                }
            });
        }
        return found[0] == 100 ? -1 : sign * found[0];
    }

    int widest(int variable) {
        index(variable, 2);
        for (int length = 8; length >= 1; length--) {
            for (int low = 0; low + length <= 8; low++) {
                if (proof(with(bounds, variable, low, low + length - 1)) == 1) {
                    return 10 * low + low + length - 1;
                }
            }
        }
        return -1;
    }

    int append(int code) {
        if (code < 33 || code > 126) {
            throw new IllegalArgumentException();
        }
        if (buffer.length() == 60) {
            throw new IllegalStateException();
        }
        buffer += (char) code;
        return buffer.length();
    }

    int clearBuffer() {
        int length = buffer.length();
        buffer = "";
        return length;
    }

    int firstError() {
        for (int length = 1; length <= buffer.length(); length++) {
            Matcher matcher = PROGRAM.matcher(buffer.substring(0, length));
            if (!matcher.matches() && !matcher.hitEnd()) {
                return length - 1;
            }
        }
        return buffer.length();
    }

    int undo() {
        if (saved.isEmpty()) {
            throw new IllegalStateException();
        }
        State state = saved.removeLast();
        program = state.program;
        bounds = state.bounds;
        return saved.size();
    }

    int savedStates() {
        return saved.size();
    }

    long digest() {
        List<Integer> values = new ArrayList<>(List.of(statements(), endless(), proof()));
        for (int n = 0; n <= program.size(); n++) {
            if (n < program.size()) {
                values.addAll(List.of(kind(n), target(n), demand(n), verdict(n), example(n)));
            }
            for (int variable = 0; variable < 3; variable++) {
                values.addAll(List.of(least(n, variable), greatest(n, variable)));
            }
        }
        values.addAll(List.of(widest(0), widest(1), widest(2)));
        long hash = 4234;
        for (int value : values) {
            hash = 31 * hash + value;
        }
        return hash;
    }
}
