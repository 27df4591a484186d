/** What the tests share: counted checks, and programs that are typed into a ClaimJudge. */
final class Checks {
    /** A call that may throw. */
    interface Call {
        void go();
    }

    private static int passed = 0;
    private static int failed = 0;

    private Checks() {
    }

    static void same(String what, long want, long got) {
        note(want == got, what, String.valueOf(want), String.valueOf(got));
    }

    static void same(String what, boolean want, boolean got) {
        note(want == got, what, String.valueOf(want), String.valueOf(got));
    }

    static void same(String what, double want, double got) {
        note(Double.compare(want, got) == 0, what, String.valueOf(want), String.valueOf(got));
    }

    static void same(String what, String want, String got) {
        note(want.equals(got), what, want, got);
    }

    /** The exception must be of this very class, as the document names it. */
    static void refuses(String what, Class<? extends RuntimeException> want, Call call) {
        String got = "nothing";
        try {
            call.go();
        } catch (RuntimeException e) {
            got = e.getClass().getName();
        }
        same(what + " throws", want.getName(), got);
    }

    private static void note(boolean right, String what, String want, String got) {
        if (right) {
            passed++;
        } else {
            failed++;
            System.out.println(what + ": due is " + want + ", but it is " + got);
        }
    }

    static void type(ClaimJudge judge, String text) {
        for (int n = 0; n < text.length(); n++) {
            judge.append(text.charAt(n));
        }
    }

    static int load(ClaimJudge judge, String text) {
        judge.clearBuffer();
        type(judge, text);
        return judge.load();
    }

    static int add(ClaimJudge judge, String text) {
        judge.clearBuffer();
        type(judge, text);
        return judge.add();
    }

    static ClaimJudge of(String text) {
        ClaimJudge judge = new ClaimJudge();
        type(judge, text);
        judge.load();
        return judge;
    }

    static void finish() {
        System.out.println(passed + " passed, " + failed + " failed");
        if (failed > 0) {
            System.exit(1);
        }
    }
}
