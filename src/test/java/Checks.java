/** What the tests share: counted checks, and programs that are typed into a ClaimJudge. */
final class Checks {
    /** A call that may throw. */
    interface Call {
        void go();
    }

    /** The ends of int, numbers whose last bits are 0, and those that 8, 64 or 512 times wrap round to 0. */
    private static final int[] FAR =
            {Integer.MIN_VALUE, -512, -1, 256, 1 << 16, 1 << 23, 1 << 26, 1 << 29, Integer.MAX_VALUE};

    private static int passed = 0;
    private static int failed = 0;
    private static String sentence = "";

    private Checks() {
    }

    /** A test of its own for one sentence of the document, which stands before all that the test finds. */
    static void test(String ofTheDocument, Call body) {
        sentence = "\"" + ofTheDocument + "\": ";
        int before = passed + failed;
        try {
            body.go();
        } catch (RuntimeException e) {
            note(false, "the test", "no exception", e.toString());
        }
        if (passed + failed == before) {
            note(false, "the test", "a check", "none");
        }
        sentence = "";
    }

    static void same(String what, long want, long got) {
        note(want == got, what, String.valueOf(want), String.valueOf(got));
    }

    static void same(String what, boolean want, boolean got) {
        note(want == got, what, String.valueOf(want), String.valueOf(got));
    }

    static void same(String what, double want, double got) {
        note(Double.compare(want, got) == 0, what, String.valueOf(want), String.valueOf(got));
    }

    static void same(String what, String want, String got) {
        note(want.equals(got), what, want, got);
    }

    /** The exception must be of this very class, as the document names it. */
    static void refuses(String what, Class<? extends RuntimeException> want, Call call) {
        String got = "nothing";
        try {
            call.go();
        } catch (RuntimeException e) {
            got = e.getClass().getName();
        }
        same(what + " throws", want.getName(), got);
    }

    static void refusesArgument(String what, Call call) {
        refuses(what, IllegalArgumentException.class, call);
    }

    static void refusesState(String what, Call call) {
        refuses(what, IllegalStateException.class, call);
    }

    static void refusesIndex(String what, Call call) {
        refuses(what, IndexOutOfBoundsException.class, call);
    }

    /** A number that is out of range for a call. */
    interface Question {
        void ask(int number);
    }

    /** All numbers from 0 to last are taken; those beside them, and those far away, are refused. */
    static void takesOnlyIndicesTo(int last, String what, Question question) {
        takesOnly(last, what, IndexOutOfBoundsException.class, question);
    }

    static void takesOnlyValues(String what, Question question) {
        takesOnly(7, what, IllegalArgumentException.class, question);
    }

    private static void takesOnly(int last, String what, Class<? extends RuntimeException> refusal, Question question) {
        for (int number = 0; number <= last; number++) {
            String got = "an answer";
            try {
                question.ask(number);
            } catch (RuntimeException e) {
                got = e.getClass().getName();
            }
            same(what + " with " + number, "an answer", got);
        }
        refuses(what + " with " + (last + 1), refusal, () -> question.ask(last + 1));
        for (int number : FAR) {
            refuses(what + " with " + number, refusal, () -> question.ask(number));
        }
    }

    private static void note(boolean right, String what, String want, String got) {
        if (right) {
            passed++;
        } else {
            failed++;
            System.out.println(sentence + what + ": due is " + want + ", but it is " + got);
        }
    }

    /** The statement again and again, with ";" between. */
    static String many(int times, String statement) {
        return times == 0 ? "" : statement + (";" + statement).repeat(times - 1);
    }

    static void type(ClaimJudge judge, String text) {
        for (int n = 0; n < text.length(); n++) {
            judge.append(text.charAt(n));
        }
    }

    static int load(ClaimJudge judge, String text) {
        judge.clearBuffer();
        type(judge, text);
        return judge.load();
    }

    static int add(ClaimJudge judge, String text) {
        judge.clearBuffer();
        type(judge, text);
        return judge.add();
    }

    static ClaimJudge of(String text) {
        ClaimJudge judge = new ClaimJudge();
        type(judge, text);
        judge.load();
        return judge;
    }

    static void finish() {
        System.out.println(passed + " passed, " + failed + " failed");
        if (failed > 0) {
            System.exit(1);
        }
    }
}
