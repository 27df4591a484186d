import java.util.Random;
import java.util.function.Supplier;

/** Long runs of calls, the same in every run of the test, each answered by the class and by PlainModel. */
public final class ModelTest {
    private static final int OBJECTS = 120;
    private static final int MOST_CALLS = 512;

    private final Random random;
    private final int object;
    private final ClaimJudge judge = new ClaimJudge();
    private final PlainModel model = new PlainModel();
    private int calls = 0;

    private ModelTest(int object) {
        this.object = object;
        this.random = new Random(object);
    }

    public static void main(String[] args) {
        for (int object = 0; object < OBJECTS; object++) {
            new ModelTest(object).play();
        }
        Checks.finish();
    }

    private void play() {
        while (calls < MOST_CALLS) {
            int choice = random.nextInt(10);
            if (choice == 0) {
                enter();
            } else if (choice == 1) {
                change();
            } else {
                ask();
            }
        }
    }

    private void both(String call, Supplier<Object> real, Supplier<Object> due) {
        if (calls < MOST_CALLS) {
            calls++;
            Checks.same("object " + object + ", call " + calls + ", " + call, answer(due), answer(real));
        }
    }

    private static String answer(Supplier<Object> call) {
        try {
            return String.valueOf(call.get());
        } catch (RuntimeException e) {
            return e.getClass().getName();
        }
    }

    private int pick(int low, int high) {
        return low + random.nextInt(high - low + 1);
    }

    /** Mostly a number from 0 to last, now and then one beside it. */
    private int around(int last) {
        return random.nextInt(12) == 0 ? (random.nextBoolean() ? -1 : last + 1) : pick(0, last);
    }

    private char of(String signs) {
        return signs.charAt(random.nextInt(signs.length()));
    }

    private String comparison() {
        return "" + of("xyz") + of("=<>#") + of("xyz01234567");
    }

    private String statement(int size) {
        switch (random.nextInt(6)) {
            case 0:
                return "!" + comparison();
            case 1:
            case 2:
                return "?" + comparison() + "@" + pick(0, random.nextInt(30) == 0 ? 12 : size);
            default:
                String sum = random.nextInt(4) == 0 ? "" : "" + of("+-") + of("01234567");
                return "" + of("xyz") + ":" + of("xyzxyzxyz01234567") + sum;
        }
    }

    private String programText(int before) {
        int many = random.nextInt(5) == 0 ? pick(1, 13) : pick(1, 6);
        StringBuilder text = new StringBuilder();
        for (int n = 0; n < many; n++) {
            text.append(n == 0 ? "" : ";").append(statement(Math.min(12, before + many)));
        }
        if (random.nextInt(8) == 0) {
            int at = random.nextInt(text.length());
            char wrong = of("xyzw:+-!?=<>#@;0123456789~");
            switch (random.nextInt(3)) {
                case 0:
                    text.setCharAt(at, wrong);
                    break;
                case 1:
                    text.insert(at, wrong);
                    break;
                default:
                    text.deleteCharAt(at);
            }
        }
        return text.toString();
    }

    private void enter() {
        if (random.nextInt(10) != 0) {
            both("clearBuffer()", judge::clearBuffer, model::clearBuffer);
        }
        boolean adds = random.nextInt(3) == 0;
        String text = programText(adds ? model.statements() : 0);
        for (int n = 0; n < text.length(); n++) {
            int code = text.charAt(n);
            both("append(" + code + ")", () -> judge.append(code), () -> model.append(code));
            if (random.nextInt(6) == 0) {
                both("firstError() of " + text, judge::firstError, model::firstError);
            }
        }
        both("firstError() of " + text, judge::firstError, model::firstError);
        if (adds) {
            both("add() of " + text, judge::add, model::add);
        } else {
            both("load() of " + text, judge::load, model::load);
        }
        both("digest() of " + text, judge::digest, model::digest);
    }

    private void change() {
        switch (random.nextInt(6)) {
            case 0:
                both("removeLast()", judge::removeLast, model::removeLast);
                break;
            case 1:
                both("undo()", judge::undo, model::undo);
                break;
            case 2:
                int code = random.nextBoolean() ? pick(33, 126) : pick(30, 130);
                both("append(" + code + ")", () -> judge.append(code), () -> model.append(code));
                break;
            default:
                int variable = around(2);
                int low = around(7);
                int high = random.nextInt(6) == 0 ? around(7) : pick(Math.min(7, Math.max(0, low)), 7);
                both("assume(" + variable + ", " + low + ", " + high + ")",
                        () -> judge.assume(variable, low, high), () -> model.assume(variable, low, high));
        }
        if (random.nextInt(3) == 0) {
            both("digest()", judge::digest, model::digest);
        }
    }

    private void ask() {
        int s = around(model.statements());
        int variable = around(2);
        int x = around(7);
        int y = around(7);
        int z = around(7);
        switch (random.nextInt(17)) {
            case 0 -> both("statements()", judge::statements, model::statements);
            case 1 -> both("kind(" + s + ")", () -> judge.kind(s), () -> model.kind(s));
            case 2 -> both("target(" + s + ")", () -> judge.target(s), () -> model.target(s));
            case 3 -> both("run(" + x + y + z + ")", () -> judge.run(x, y, z), () -> model.run(x, y, z));
            case 4 -> both("steps(" + x + y + z + ")", () -> judge.steps(x, y, z), () -> model.steps(x, y, z));
            case 5 -> both("demand(" + s + ")", () -> judge.demand(s), () -> model.demand(s));
            case 6 -> both("demands(" + s + ", " + x + y + z + ")",
                    () -> judge.demands(s, x, y, z), () -> model.demands(s, x, y, z));
            case 7 -> both("verdict(" + s + ")", () -> judge.verdict(s), () -> model.verdict(s));
            case 8 -> both("example(" + s + ")", () -> judge.example(s), () -> model.example(s));
            case 9 -> both("endless()", judge::endless, model::endless);
            case 10 -> both("proof()", judge::proof, model::proof);
            case 11 -> both("provedShare()", judge::provedShare, model::provedShare);
            case 12 -> both("least(" + s + ", " + variable + ")",
                    () -> judge.least(s, variable), () -> model.least(s, variable));
            case 13 -> both("greatest(" + s + ", " + variable + ")",
                    () -> judge.greatest(s, variable), () -> model.greatest(s, variable));
            case 14 -> both("widest(" + variable + ")", () -> judge.widest(variable), () -> model.widest(variable));
            case 15 -> both("savedStates()", judge::savedStates, model::savedStates);
            default -> both("digest()", judge::digest, model::digest);
        }
    }
}
