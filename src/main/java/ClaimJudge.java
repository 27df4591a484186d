import java.util.Arrays;

/** Judges the claims of a small program about three variables; ../shared/DOC.md is the contract. */
public final class ClaimJudge {
    public static final int NONE = -1;

    private static final int VARIABLES = 3;
    private static final int VALUES = 8;
    private static final int TRIPLES = 512;
    private static final int MOST_STATEMENTS = 12;
    private static final int MOST_CHARACTERS = 60;
    private static final int MOST_SAVED = 6;

    /** A place is a statement (or the end) together with a triple: statement * TRIPLES + triple. */
    private static final int MOST_PLACES = (MOST_STATEMENTS + 1) * TRIPLES;

    private static final int ASSIGNMENT = 0;
    private static final int CLAIM = 1;
    private static final int JUMP = 2;

    private static final String VARIABLE_NAMES = "xyz";
    private static final String TEST_SIGNS = "=<>#";
    private static final int EQUAL = 0;
    private static final int LESS = 1;
    private static final int GREATER = 2;

    private static final int NOT_REACHED = 0;
    private static final int PROVED = 1;
    private static final int REFUTED = 2;

    private static final int SUCCESS = 1000;
    private static final int UNKNOWN = -2;
    private static final int ON_THE_WAY = -3;

    private static final long FIRST_HASH = 4234L;

    private final Program program;
    private final Assumption assumption;
    private final Runs runs;
    private final Judgement judgement;
    private final History history;
    private final Text text;

    public ClaimJudge() {
        program = new Program();
        assumption = new Assumption();
        runs = new Runs(program);
        judgement = new Judgement(program, assumption, runs);
        history = new History();
        text = new Text();
    }

    // ---- program

    public int load() throws IllegalArgumentException {
        Program loaded = text.loaded;
        if (!text.readAll() || loaded.highestTarget() > loaded.size) {
            throw new IllegalArgumentException("the buffer is not a program");
        }
        saveState();
        program.copyFrom(loaded);
        text.clear();
        forgetProgram();
        return program.size;
    }

    public int add() throws IllegalArgumentException {
        Program more = text.loaded;
        if (!text.readAll() || !fitsBehind(more)) {
            throw new IllegalArgumentException("the buffer cannot be added");
        }
        saveState();
        program.putAll(more);
        text.clear();
        forgetProgram();
        return program.size;
    }

    public int removeLast() throws IllegalStateException {
        if (program.size == 0) {
            throw new IllegalStateException("there is no statement");
        }
        saveState();
        program.dropLast();
        forgetProgram();
        return program.size;
    }

    public int statements() {
        return program.size;
    }

    public int kind(int statement) throws IndexOutOfBoundsException {
        checkIndex(statement, program.size);
        return program.kinds[statement];
    }

    public int target(int statement) throws IndexOutOfBoundsException {
        checkIndex(statement, program.size);
        return program.targets[statement];
    }

    // ---- runs

    public int run(int x, int y, int z) throws IllegalArgumentException {
        checkValues(x, y, z);
        return runs.endFrom(tripleOf(x, y, z));
    }

    public int steps(int x, int y, int z) throws IllegalArgumentException {
        checkValues(x, y, z);
        return runs.lengthFrom(tripleOf(x, y, z));
    }

    // ---- demands

    public int demand(int statement) throws IndexOutOfBoundsException {
        checkIndex(statement, program.size + 1);
        int count = 0;
        for (int triple = 0; triple < TRIPLES; triple++) {
            if (runs.succeedsFrom(placeOf(statement, triple))) {
                count++;
            }
        }
        return count;
    }

    public boolean demands(int statement, int x, int y, int z)
            throws IndexOutOfBoundsException, IllegalArgumentException {
        checkIndex(statement, program.size + 1);
        checkValues(x, y, z);
        return runs.succeedsFrom(placeOf(statement, tripleOf(x, y, z)));
    }

    // ---- assumption, verdicts

    public int assume(int variable, int low, int high)
            throws IndexOutOfBoundsException, IllegalArgumentException {
        checkIndex(variable, VARIABLES);
        if (!isValue(low) || !isValue(high) || high < low) {
            throw new IllegalArgumentException("a bound is out of range");
        }
        saveState();
        assumption.limit(variable, low, high);
        judgement.forget();
        return assumption.count();
    }

    public int verdict(int statement) throws IndexOutOfBoundsException {
        checkIndex(statement, program.size);
        if (program.kinds[statement] != CLAIM) {
            return NONE;
        }
        judgement.refresh();
        if (judgement.examples[statement] != NONE) {
            return REFUTED;
        }
        return judgement.isReached(statement) ? PROVED : NOT_REACHED;
    }

    public int example(int statement) throws IndexOutOfBoundsException {
        checkIndex(statement, program.size);
        judgement.refresh();
        return judgement.examples[statement];
    }

    public int endless() {
        judgement.refresh();
        return judgement.endlessRuns;
    }

    public int proof() {
        judgement.refresh();
        if (judgement.failedRuns > 0) {
            return 2;
        }
        return judgement.endlessRuns > 0 ? 0 : 1;
    }

    public double provedShare() {
        judgement.refresh();
        return (double) judgement.successfulRuns / (double) assumption.count();
    }

    // ---- kept truths

    public int least(int statement, int variable) throws IndexOutOfBoundsException {
        checkIndex(statement, program.size + 1);
        checkIndex(variable, VARIABLES);
        judgement.refresh();
        return judgement.lows[statement * VARIABLES + variable];
    }

    public int greatest(int statement, int variable) throws IndexOutOfBoundsException {
        checkIndex(statement, program.size + 1);
        checkIndex(variable, VARIABLES);
        judgement.refresh();
        return judgement.highs[statement * VARIABLES + variable];
    }

    // ---- forecasts; they change nothing

    public int widest(int variable) throws IndexOutOfBoundsException {
        checkIndex(variable, VARIABLES);
        return widestRange(unprovedValues(variable));
    }

    // ---- program text

    public int append(int code) throws IllegalArgumentException, IllegalStateException {
        if (code < 33 || code > 126) {
            throw new IllegalArgumentException("code is out of range");
        }
        if (text.length >= MOST_CHARACTERS) {
            throw new IllegalStateException("the buffer is full");
        }
        text.put((char) code);
        return text.length;
    }

    public int clearBuffer() {
        int length = text.length;
        text.clear();
        return length;
    }

    public int firstError() {
        text.readAll();
        return text.at;
    }

    // ---- undo

    public int undo() throws IllegalStateException {
        if (history.count == 0) {
            throw new IllegalStateException("no state is saved");
        }
        history.restore(program, assumption);
        forgetProgram();
        return history.count;
    }

    public int savedStates() {
        return history.count;
    }

    public long digest() {
        long hash = FIRST_HASH;
        hash = 31 * hash + statements();
        hash = 31 * hash + endless();
        hash = 31 * hash + proof();
        for (int statement = 0; statement <= program.size; statement++) {
            if (statement < program.size) {
                hash = 31 * hash + kind(statement);
                hash = 31 * hash + target(statement);
                hash = 31 * hash + demand(statement);
                hash = 31 * hash + verdict(statement);
                hash = 31 * hash + example(statement);
            }
            for (int variable = 0; variable < VARIABLES; variable++) {
                hash = 31 * hash + least(statement, variable);
                hash = 31 * hash + greatest(statement, variable);
            }
        }
        for (int variable = 0; variable < VARIABLES; variable++) {
            hash = 31 * hash + widest(variable);
        }
        return hash;
    }

    // ---- helpers

    private boolean fitsBehind(Program more) {
        int total = program.size + more.size;
        return total <= MOST_STATEMENTS && more.highestTarget() <= total;
    }

    /** A bit for each value of the variable from which, within the other bounds, some run does not succeed. */
    private int unprovedValues(int variable) {
        int unproved = 0;
        for (int triple = 0; triple < TRIPLES; triple++) {
            if (assumption.allowsBut(variable, triple) && runs.endFrom(triple) < SUCCESS) {
                unproved |= 1 << valueOf(triple, variable);
            }
        }
        return unproved;
    }

    private static int widestRange(int unproved) {
        int widestSoFar = NONE;
        int most = 0;
        int low = 0;
        for (int high = 0; high < VALUES; high++) {
            if (((unproved >> high) & 1) == 1) {
                low = high + 1;
            } else if (high - low + 1 > most) {
                most = high - low + 1;
                widestSoFar = 10 * low + high;
            }
        }
        return widestSoFar;
    }

    private void saveState() {
        history.save(program, assumption);
    }

    private void forgetProgram() {
        runs.forget();
        judgement.forget();
    }

    private static void checkIndex(int index, int end) throws IndexOutOfBoundsException {
        if (index < 0 || index >= end) {
            throw new IndexOutOfBoundsException("there is no such number");
        }
    }

    private static void checkValues(int x, int y, int z) throws IllegalArgumentException {
        if (!isValue(x) || !isValue(y) || !isValue(z)) {
            throw new IllegalArgumentException("a value is out of range");
        }
    }

    private static boolean isValue(int number) {
        return number >= 0 && number < VALUES;
    }

    private static int tripleOf(int x, int y, int z) {
        return 64 * x + 8 * y + z;
    }

    private static int valueOf(int triple, int variable) {
        return (triple >> (6 - 3 * variable)) & 7;
    }

    private static int withValue(int triple, int variable, int value) {
        int shift = 6 - 3 * variable;
        return (triple & ~(7 << shift)) | (value << shift);
    }

    private static int placeOf(int statement, int triple) {
        return statement * TRIPLES + triple;
    }

    private static int statementAt(int place) {
        return place / TRIPLES;
    }

    private static int tripleAt(int place) {
        return place % TRIPLES;
    }

    /** The statements, a row for each of their parts; no target is ever greater than the size. */
    private static final class Program {
        private int size;
        private final int[] kinds = new int[MOST_STATEMENTS];
        private final int[] variables = new int[MOST_STATEMENTS];
        private final int[] signs = new int[MOST_STATEMENTS];
        /** 0 to 7 is a number, VALUES plus a variable's number is that variable's value. */
        private final int[] operands = new int[MOST_STATEMENTS];
        private final int[] addends = new int[MOST_STATEMENTS];
        private final int[] targets = new int[MOST_STATEMENTS];

        void clear() {
            size = 0;
        }

        void put(int kind, int variable, int sign, int operand, int addend, int target) {
            if (size >= MOST_STATEMENTS) {
                return;
            }
            kinds[size] = kind;
            variables[size] = variable;
            signs[size] = sign;
            operands[size] = operand;
            addends[size] = addend;
            targets[size] = target;
            size++;
        }

        void putAll(Program other) {
            for (int n = 0; n < other.size; n++) {
                put(other.kinds[n], other.variables[n], other.signs[n],
                        other.operands[n], other.addends[n], other.targets[n]);
            }
        }

        void copyFrom(Program other) {
            clear();
            putAll(other);
        }

        void dropLast() {
            int left = Math.max(size - 1, 0);
            for (int n = 0; n < left; n++) {
                if (targets[n] > left) {
                    targets[n] = left;
                }
            }
            size = left;
        }

        int highestTarget() {
            int highest = NONE;
            for (int n = 0; n < size; n++) {
                highest = Math.max(highest, targets[n]);
            }
            return highest;
        }

        boolean isEnd(int place) {
            return statementAt(place) >= size;
        }

        /** The place to which a run goes on, NONE if it ends or fails here. */
        int placeAfter(int place) {
            int statement = statementAt(place);
            int triple = tripleAt(place);
            if (statement >= size) {
                return NONE;
            }
            int operand = operands[statement];
            int right = operand < VALUES ? operand : valueOf(triple, operand - VALUES);
            if (kinds[statement] == ASSIGNMENT) {
                int value = (right + addends[statement]) & 7;
                return placeOf(statement + 1, withValue(triple, variables[statement], value));
            }
            boolean holds = compares(valueOf(triple, variables[statement]), signs[statement], right);
            if (kinds[statement] == JUMP) {
                return placeOf(holds ? targets[statement] : statement + 1, triple);
            }
            return holds ? placeOf(statement + 1, triple) : NONE;
        }

        private static boolean compares(int left, int sign, int right) {
            switch (sign) {
                case EQUAL:
                    return left == right;
                case LESS:
                    return left < right;
                case GREATER:
                    return left > right;
                default:
                    return left != right;
            }
        }
    }

    /** The bounds of the values at the beginning. */
    private static final class Assumption {
        private final int[] lowest = {0, 0, 0};
        private final int[] highest = {7, 7, 7};

        void limit(int variable, int low, int high) {
            lowest[variable] = low;
            highest[variable] = high;
        }

        void copyFrom(Assumption other) {
            for (int variable = 0; variable < VARIABLES; variable++) {
                limit(variable, other.lowest[variable], other.highest[variable]);
            }
        }

        boolean allows(int triple) {
            return allowsBut(NONE, triple);
        }

        boolean allowsBut(int free, int triple) {
            for (int variable = 0; variable < VARIABLES; variable++) {
                int value = valueOf(triple, variable);
                if (variable != free && (value < lowest[variable] || value > highest[variable])) {
                    return false;
                }
            }
            return true;
        }

        int count() {
            int triples = 1;
            for (int variable = 0; variable < VARIABLES; variable++) {
                triples *= highest[variable] - lowest[variable] + 1;
            }
            return triples;
        }
    }

    /** What run() answers for a run that goes on from a place; each place is walked through only once. */
    private static final class Runs {
        private final Program program;
        private final int[] ends = new int[MOST_PLACES];
        private boolean stale = true;

        Runs(Program program) {
            this.program = program;
        }

        void forget() {
            stale = true;
        }

        boolean succeedsFrom(int place) {
            return endFrom(place) >= SUCCESS;
        }

        int endFrom(int start) {
            if (stale) {
                Arrays.fill(ends, UNKNOWN);
                stale = false;
            }
            int place = start;
            for (int n = 0; n < MOST_PLACES && ends[place] == UNKNOWN; n++) {
                int next = program.placeAfter(place);
                if (next == NONE) {
                    ends[place] = endAt(place);
                } else {
                    ends[place] = ON_THE_WAY;
                    place = next;
                }
            }
            // A walk that meets its own way goes round for ever.
            settle(start, ends[place] == ON_THE_WAY ? NONE : ends[place]);
            return ends[start];
        }

        private int endAt(int place) {
            return program.isEnd(place) ? SUCCESS + tripleAt(place) : statementAt(place);
        }

        private void settle(int start, int end) {
            int place = start;
            for (int n = 0; n < MOST_PLACES && place != NONE && ends[place] == ON_THE_WAY; n++) {
                ends[place] = end;
                place = program.placeAfter(place);
            }
        }

        int lengthFrom(int start) {
            if (endFrom(start) == NONE) {
                return NONE;
            }
            int executed = 0;
            int place = start;
            for (int n = 0; n < MOST_PLACES && place != NONE && !program.isEnd(place); n++) {
                executed++;
                place = program.placeAfter(place);
            }
            return executed;
        }
    }

    /** What all runs from the assumption show, found in one pass when it is asked for after a change. */
    private static final class Judgement {
        private final Program program;
        private final Assumption assumption;
        private final Runs runs;
        private final int[] examples = new int[MOST_STATEMENTS];
        private final int[] lows = new int[(MOST_STATEMENTS + 1) * VARIABLES];
        private final int[] highs = new int[(MOST_STATEMENTS + 1) * VARIABLES];
        private int endlessRuns;
        private int failedRuns;
        private int successfulRuns;
        /** A bit for each place: such a row is small, and cleared at once. */
        private final long[] visited = new long[MOST_PLACES / 64];
        private boolean stale = true;

        Judgement(Program program, Assumption assumption, Runs runs) {
            this.program = program;
            this.assumption = assumption;
            this.runs = runs;
        }

        void forget() {
            stale = true;
        }

        boolean isReached(int statement) {
            return lows[statement * VARIABLES] != NONE;
        }

        void refresh() {
            if (!stale) {
                return;
            }
            clear();
            for (int triple = 0; triple < TRIPLES; triple++) {
                if (assumption.allows(triple)) {
                    countRun(triple, runs.endFrom(triple));
                    followRun(triple);
                }
            }
            stale = false;
        }

        private void clear() {
            Arrays.fill(examples, NONE);
            Arrays.fill(lows, NONE);
            Arrays.fill(highs, NONE);
            Arrays.fill(visited, 0L);
            endlessRuns = 0;
            failedRuns = 0;
            successfulRuns = 0;
        }

        private void countRun(int triple, int end) {
            if (end >= SUCCESS) {
                successfulRuns++;
            } else if (end == NONE) {
                endlessRuns++;
            } else {
                failedRuns++;
                if (examples[end] == NONE) {
                    examples[end] = triple;
                }
            }
        }

        private void followRun(int triple) {
            int place = triple;
            for (int n = 0; n < MOST_PLACES && place != NONE && !isVisited(place); n++) {
                visited[place >> 6] |= 1L << (place & 63);
                noteValues(place);
                place = program.placeAfter(place);
            }
        }

        private boolean isVisited(int place) {
            return ((visited[place >> 6] >> (place & 63)) & 1L) != 0L;
        }

        private void noteValues(int place) {
            int first = statementAt(place) * VARIABLES;
            for (int variable = 0; variable < VARIABLES; variable++) {
                int value = valueOf(tripleAt(place), variable);
                int row = first + variable;
                if (lows[row] == NONE || value < lows[row]) {
                    lows[row] = value;
                }
                if (value > highs[row]) {
                    highs[row] = value;
                }
            }
        }
    }

    /** The saved states, in a ring of rows that are used again. */
    private static final class History {
        private final Program[] programs = new Program[MOST_SAVED];
        private final Assumption[] assumptions = new Assumption[MOST_SAVED];
        private int oldest;
        private int count;

        History() {
            for (int n = 0; n < MOST_SAVED; n++) {
                programs[n] = new Program();
                assumptions[n] = new Assumption();
            }
        }

        void save(Program program, Assumption assumption) {
            if (count == MOST_SAVED) {
                oldest = (oldest + 1) % MOST_SAVED;
                count--;
            }
            int slot = (oldest + count) % MOST_SAVED;
            programs[slot].copyFrom(program);
            assumptions[slot].copyFrom(assumption);
            count++;
        }

        void restore(Program program, Assumption assumption) {
            if (count == 0) {
                return;
            }
            count--;
            int slot = (oldest + count) % MOST_SAVED;
            program.copyFrom(programs[slot]);
            assumption.copyFrom(assumptions[slot]);
        }
    }

    /** The buffer and its reading: each take function moves on only behind what fits. */
    private static final class Text {
        private final char[] characters = new char[MOST_CHARACTERS];
        private int length;
        private final Program loaded = new Program();
        private int at;
        private int variable;
        private int sign;
        private int operand;
        private int addend;
        private int goal;

        void put(char character) {
            if (length < MOST_CHARACTERS) {
                characters[length] = character;
                length++;
            }
        }

        void clear() {
            length = 0;
        }

        /**
         * Reads the buffer into loaded; true if it is a complete program text. Reading stops before
         * the first character that does not fit, or at the end of the buffer.
         */
        boolean readAll() {
            at = 0;
            loaded.clear();
            for (int n = 1; n <= MOST_STATEMENTS; n++) {
                if (!takeStatement()) {
                    return false;
                }
                if (at == length) {
                    return true;
                }
                if (n == MOST_STATEMENTS || !take(';')) {
                    return false;
                }
            }
            return false;
        }

        private boolean takeStatement() {
            sign = 0;
            addend = 0;
            goal = NONE;
            if (take('!')) {
                return takeTest() && keep(CLAIM);
            }
            if (take('?')) {
                return takeTest() && take('@') && takeGoal() && keep(JUMP);
            }
            return takeVariable() && take(':') && takeOperand() && takeAddend() && keep(ASSIGNMENT);
        }

        private boolean keep(int kind) {
            loaded.put(kind, variable, sign, operand, addend, goal);
            return true;
        }

        private boolean takeTest() {
            return takeVariable() && takeSign() && takeOperand();
        }

        private boolean takeVariable() {
            int found = VARIABLE_NAMES.indexOf(next());
            if (found < 0) {
                return false;
            }
            variable = found;
            at++;
            return true;
        }

        private boolean takeSign() {
            int found = TEST_SIGNS.indexOf(next());
            if (found < 0) {
                return false;
            }
            sign = found;
            at++;
            return true;
        }

        private boolean takeOperand() {
            int found = VARIABLE_NAMES.indexOf(next());
            if (found < 0 && !isDigitTo('7')) {
                return false;
            }
            operand = found < 0 ? next() - '0' : VALUES + found;
            at++;
            return true;
        }

        private boolean takeAddend() {
            boolean minus = take('-');
            if (!minus && !take('+')) {
                return true;
            }
            if (!isDigitTo('7')) {
                return false;
            }
            addend = minus ? '0' - next() : next() - '0';
            at++;
            return true;
        }

        private boolean takeGoal() {
            if (!isDigitTo('9')) {
                return false;
            }
            goal = next() - '0';
            at++;
            if (goal == 1 && isDigitTo('2')) {
                goal = 10 + next() - '0';
                at++;
            }
            return true;
        }

        private boolean take(char wanted) {
            if (next() != wanted) {
                return false;
            }
            at++;
            return true;
        }

        private boolean isDigitTo(char last) {
            return next() >= '0' && next() <= last;
        }

        /** The sign 0 stands behind the buffer: it fits nowhere. */
        private char next() {
            return at < length ? characters[at] : (char) 0;
        }
    }
}
