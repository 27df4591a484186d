import java.util.function.Consumer;
import java.util.function.Supplier;

/** All that the calls tell of an object, as a text: objects with equal texts have the same state and buffer. */
final class Trace {
    private Trace() {
    }

    /** What a refused call leaves must be what it found: a twin that is never asked tells what that was. */
    static void refusedChangesNothing(String what, Class<? extends RuntimeException> want,
            Supplier<ClaimJudge> maker, Consumer<ClaimJudge> call) {
        ClaimJudge asked = maker.get();
        Checks.refuses(what, want, () -> call.accept(asked));
        Checks.same(what + " changes nothing", of(maker.get()), of(asked));
    }

    /** It uses the object up, as it undoes whatever can be undone, and empties the buffer. */
    static String of(ClaimJudge judge) {
        StringBuilder told = new StringBuilder();
        state(told, judge);
        told.append(" error ").append(judge.firstError());
        for (int left = judge.savedStates(); left > 0; left--) {
            told.append(" undo ").append(judge.undo());
            state(told, judge);
        }
        buffer(told, judge);
        return told.toString();
    }

    private static void state(StringBuilder told, ClaimJudge judge) {
        told.append(" saved ").append(judge.savedStates());
        told.append(" digest ").append(judge.digest());
        told.append(" share ").append(judge.provedShare());
        for (int n = 0; n < 8; n++) {
            told.append(' ').append(judge.run(n, 7 - n, n / 2));
            told.append('/').append(judge.steps(n, 7 - n, n / 2));
        }
    }

    /** What is in the buffer shows when it is loaded, perhaps behind a few more statements. */
    private static void buffer(StringBuilder told, ClaimJudge judge) {
        String[] more = {"", ";z:5", ";z:6;z:7", ";x:y;y:z;z:0"};
        for (String text : more) {
            try {
                for (char c : text.toCharArray()) {
                    told.append(' ').append(judge.append(c));
                }
                told.append(" load ").append(judge.load());
                state(told, judge);
            } catch (RuntimeException e) {
                told.append(' ').append(e.getClass().getName());
            }
        }
        told.append(" length ").append(judge.clearBuffer());
    }
}
