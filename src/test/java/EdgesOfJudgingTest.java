/** The edges that promises 8 to 20 name: a test for each of their sentences. */
public final class EdgesOfJudgingTest {
    /** Fails at 0 for x = 7, at 3 for y = 0, is endless for z = 7, and succeeds otherwise. */
    private static final String ALL_ENDS = "!x<7;?z=7@1;?z=6@4;!y>0;x:y";

    public static void main(String[] args) {
        runs();
        demands();
        assume();
        verdicts();
        proofs();
        keptTruths();
        widest();
        Checks.finish();
    }

    private static ClaimJudge size(int statements) {
        return statements == 0 ? new ClaimJudge() : Checks.of(Checks.many(statements, "x:x"));
    }

    private static void runs() {
        Checks.test("8: Returns 1000 plus 64 * x + 8 * y + z with the values at the end if the run succeeds; the number"
                + " of the claim if it fails; NONE if it is endless.", EdgesOfJudgingTest::run);
        Checks.test("8: Throws `IllegalArgumentException` if a value is out of range", () -> {
            ClaimJudge judge = Checks.of(ALL_ENDS);
            Checks.takesOnlyValues("run() for x", n -> judge.run(n, 3, 4));
            Checks.takesOnlyValues("run() for y", n -> judge.run(3, n, 4));
            Checks.takesOnlyValues("run() for z", n -> judge.run(3, 4, n));
            ClaimJudge empty = new ClaimJudge();
            Checks.refusesArgument("run() without statements", () -> empty.run(8, 0, 0));
            Checks.refusesArgument("run() of three", () -> empty.run(-8, 64, 0));
        });
        Checks.test("9: Returns the number of statements that are executed (each one as often as it is; the claim at"
                + " which the run fails is counted, too); NONE if it is endless.", EdgesOfJudgingTest::steps);
        Checks.test("9: Throws `IllegalArgumentException` if a value is out of range", () -> {
            ClaimJudge judge = Checks.of(ALL_ENDS);
            Checks.takesOnlyValues("steps() for x", n -> judge.steps(n, 3, 4));
            Checks.takesOnlyValues("steps() for y", n -> judge.steps(3, n, 4));
            Checks.takesOnlyValues("steps() for z", n -> judge.steps(3, 4, n));
            Checks.refusesArgument("steps() without statements", () -> new ClaimJudge().steps(0, 0, 8));
        });
    }

    private static void run() {
        Checks.same("the least values", 1000, new ClaimJudge().run(0, 0, 0));
        Checks.same("the greatest values", 1511, new ClaimJudge().run(7, 7, 7));
        Checks.same("the values at the end", 1000 + 64 * 4 + 8 * 5 + 6, Checks.of("x:4;y:5;z:6").run(7, 7, 7));
        Checks.same("1, 0, 0", 1064, Checks.of("y:0").run(1, 7, 0));
        Checks.same("0, 1, 0", 1008, Checks.of("z:0").run(0, 1, 7));
        Checks.same("0, 0, 1", 1001, Checks.of("x:0").run(7, 0, 1));
        for (int statement = 0; statement < 12; statement++) {
            String before = statement == 0 ? "" : Checks.many(statement, "x:x") + ";";
            ClaimJudge judge = Checks.of(before + Checks.many(12 - statement, "!x=1"));
            Checks.same("failing at " + statement, statement, judge.run(0, 0, 0));
            Checks.same("not failing", 1064, judge.run(1, 0, 0));
        }
        Checks.same("endless at once", ClaimJudge.NONE, Checks.of("?x=x@0").run(7, 7, 7));
        Checks.same("endless at the twelfth", ClaimJudge.NONE, Checks.of(Checks.many(11, "x:x") + ";?x=x@11").run(0, 0, 0));
        ClaimJudge judge = Checks.of(ALL_ENDS);
        judge.assume(0, 0, 0);
        Checks.same("the assumption does not matter", 1000 + 64 + 8 + 1, judge.run(6, 1, 1));
        Checks.same("the assumption does not matter", 0, judge.run(7, 1, 1));
        Checks.same("the assumption does not matter", ClaimJudge.NONE, judge.run(6, 1, 7));
    }

    private static void steps() {
        for (int size = 0; size <= 12; size++) {
            Checks.same("each of " + size, size, size(size).steps(1, 2, 3));
        }
        Checks.same("a failing claim", 1, Checks.of("!x#x;x:1").steps(0, 0, 0));
        Checks.same("a failing claim at the end", 2, Checks.of("x:1;!x=0").steps(0, 0, 0));
        Checks.same("a claim that holds", 1, Checks.of("!x=0").steps(0, 0, 0));
        Checks.same("a jump over one", 2, Checks.of("?x=0@2;x:1;x:2").steps(0, 0, 0));
        Checks.same("a jump to the end", 1, Checks.of("?x=0@2;x:1").steps(0, 0, 0));
        Checks.same("a jump to the next", 2, Checks.of("?x=0@1;x:1").steps(0, 0, 0));
        Checks.same("once round", 2, Checks.of("x:x+1;?x#0@0").steps(7, 0, 0));
        Checks.same("eight times round", 16, Checks.of("x:x+1;?x#0@0").steps(0, 0, 0));
        Checks.same("a claim that fails the eighth time", 22, Checks.of("!x#7;x:x+1;?x=x@0").steps(0, 0, 0));
        Checks.same("all triples", 1024 + 128 + 16,
                Checks.of("x:x+1;?x#0@0;y:y+1;?y#0@0;z:z+1;?z#0@0").steps(0, 0, 0));
        Checks.same("endless at once", ClaimJudge.NONE, Checks.of("?x=x@0").steps(0, 0, 0));
        Checks.same("endless later", ClaimJudge.NONE, Checks.of("x:1;y:y+1;?x=1@1").steps(0, 0, 0));
        ClaimJudge judge = Checks.of(ALL_ENDS);
        Checks.same("in another order: endless", ClaimJudge.NONE, judge.steps(0, 1, 7));
        Checks.same("in another order: failing", 1, judge.steps(7, 1, 7));
        Checks.same("in another order: failing later", 4, judge.steps(0, 0, 0));
        Checks.same("in another order: succeeding", 4, judge.steps(0, 0, 6));
        Checks.same("the same again", 5, judge.steps(0, 1, 0));
        Checks.same("the same again", 5, judge.steps(0, 1, 0));
    }

    private static void demands() {
        Checks.test("10: Returns the number of triples.", () -> {
            ClaimJudge judge = Checks.of("?x#7@4;?y#7@4;?z#7@4;!z#7;!x#x");
            Checks.same("none", 0, judge.demand(0));
            Checks.same("all", 512, judge.demand(5));
            judge.removeLast();
            Checks.same("all but one", 511, judge.demand(0));
            Checks.same("all but those of y = z = 7", 504, judge.demand(1));
            Checks.same("at the claim", 448, judge.demand(3));
            Checks.same("behind it", 512, judge.demand(4));
            judge.assume(0, 1, 1);
            Checks.same("the assumption does not matter", 511, judge.demand(0));
            Checks.same("a single one", 1, Checks.of("!x=7;!y=0;!z=3").demand(0));
            Checks.same("endless ones do not count", 448, Checks.of("?z=2@0").demand(0));
            Checks.same("statements that are not reached have one", 64, Checks.of("?x=x@2;!y=3").demand(1));
        });
        Checks.test("10: Throws `IndexOutOfBoundsException` if statement is out of range", () -> {
            for (int size = 0; size <= 12; size++) {
                Checks.takesOnlyIndicesTo(size, "demand() of " + size, size(size)::demand);
            }
        });
        Checks.test("11: Returns true if it is.", () -> {
            ClaimJudge judge = Checks.of("?x#7@4;?y#7@4;?z#7@4;!z#7");
            Checks.same("the one that fails", false, judge.demands(0, 7, 7, 7));
            Checks.same("beside it", true, judge.demands(0, 7, 7, 6));
            Checks.same("beside it", true, judge.demands(0, 7, 6, 7));
            Checks.same("beside it", true, judge.demands(0, 6, 7, 7));
            Checks.same("at the claim", false, judge.demands(3, 0, 0, 7));
            Checks.same("at the claim", true, judge.demands(3, 7, 7, 0));
            Checks.same("behind it", true, judge.demands(4, 7, 7, 7));
            judge.assume(2, 6, 6);
            Checks.same("the assumption does not matter", false, judge.demands(2, 0, 0, 7));
            Checks.same("an endless one", false, Checks.of("?z=2@0").demands(0, 0, 0, 2));
        });
        Checks.test("11: Throws `IndexOutOfBoundsException` if statement is out of range", () -> {
            for (int size = 0; size <= 12; size++) {
                ClaimJudge judge = size(size);
                Checks.takesOnlyIndicesTo(size, "demands() of " + size, n -> judge.demands(n, 7, 7, 7));
            }
        });
        Checks.test("11: Throws `IllegalArgumentException` if a value is out of range", () -> {
            ClaimJudge judge = Checks.of(ALL_ENDS);
            Checks.takesOnlyValues("demands() for x", n -> judge.demands(0, n, 0, 0));
            Checks.takesOnlyValues("demands() for y", n -> judge.demands(4, 0, n, 0));
            Checks.takesOnlyValues("demands() for z", n -> judge.demands(5, 0, 0, n));
        });
    }

    private static void assume() {
        Checks.test("12: Returns the number of triples of the assumption then.", () -> {
            for (int variable = 0; variable < 3; variable++) {
                ClaimJudge judge = new ClaimJudge();
                for (int low = 0; low < 8; low++) {
                    for (int high = low; high < 8; high++) {
                        Checks.same(low + " to " + high, 64 * (high - low + 1), judge.assume(variable, low, high));
                        Checks.same("its lower bound", low, judge.least(0, variable));
                        Checks.same("its upper bound", high, judge.greatest(0, variable));
                    }
                }
            }
            ClaimJudge judge = new ClaimJudge();
            Checks.same("one value of x", 64, judge.assume(0, 7, 7));
            Checks.same("and one of y", 8, judge.assume(1, 0, 0));
            Checks.same("and one of z", 1, judge.assume(2, 3, 3));
            Checks.same("and all of y again", 8, judge.assume(1, 0, 7));
        });
        Checks.test("12: Undoable.", () -> {
            for (int variable = 0; variable < 3; variable++) {
                ClaimJudge judge = new ClaimJudge();
                judge.assume(variable, 2, 3);
                judge.assume(variable, 4, 4);
                Checks.same("undo()", 1, judge.undo());
                Checks.same("bounds of before", 23, 10 * judge.least(0, variable) + judge.greatest(0, variable));
                Checks.same("undo()", 0, judge.undo());
                Checks.same("bounds of before", 7, 10 * judge.least(0, variable) + judge.greatest(0, variable));
            }
        });
        Checks.test("12: Throws `IndexOutOfBoundsException` if there is no such variable", () -> {
            ClaimJudge judge = new ClaimJudge();
            Checks.takesOnlyIndicesTo(2, "assume()", n -> judge.assume(n, 1, 6));
            Checks.same("refused calls save nothing", 3, judge.savedStates());
        });
        Checks.test("12: Throws `IllegalArgumentException` if low or high is out of range",
                EdgesOfJudgingTest::assumeOutOfRange);
    }

    private static void assumeOutOfRange() {
        ClaimJudge lows = new ClaimJudge();
        Checks.takesOnlyValues("low", n -> lows.assume(0, n, 7));
        ClaimJudge highs = new ClaimJudge();
        Checks.takesOnlyValues("high", n -> highs.assume(0, 0, n));
        ClaimJudge both = new ClaimJudge();
        Checks.takesOnlyValues("both", n -> both.assume(2, n, n));
        ClaimJudge judge = new ClaimJudge();
        judge.assume(1, 3, 5);
        for (int low = 1; low < 8; low++) {
            for (int high = -1; high < low; high++) {
                int above = low;
                int below = high;
                Checks.refusesArgument("from " + low + " to " + high, () -> judge.assume(1, above, below));
            }
        }
        Checks.same("the bounds stay", 35, 10 * judge.least(0, 1) + judge.greatest(0, 1));
        Checks.same("nothing is saved", 1, judge.savedStates());
    }

    private static void verdicts() {
        Checks.test("13: Returns 0 to 2; NONE if it is not a claim.", () -> {
            ClaimJudge judge = Checks.of("x:4;!x=4;?x=4@4;!y=7;!y<7");
            Checks.same("an assignment", ClaimJudge.NONE, judge.verdict(0));
            Checks.same("proved", 1, judge.verdict(1));
            Checks.same("a jump", ClaimJudge.NONE, judge.verdict(2));
            Checks.same("not reached", 0, judge.verdict(3));
            Checks.same("refuted", 2, judge.verdict(4));
            judge.assume(1, 0, 6);
            Checks.same("proved with bounds", 1, judge.verdict(4));
            judge.assume(1, 7, 7);
            Checks.same("refuted with others", 2, judge.verdict(4));
        });
        Checks.test("13: Throws `IndexOutOfBoundsException` if there is no such statement", () -> {
            Checks.refusesIndex("of none", () -> new ClaimJudge().verdict(0));
            for (int size = 1; size <= 12; size++) {
                Checks.takesOnlyIndicesTo(size - 1, "verdict() of " + size,
                        Checks.of(Checks.many(size, "!x=1"))::verdict);
                Checks.takesOnlyIndicesTo(size - 1, "verdict() of " + size + " assignments", size(size)::verdict);
            }
        });
        Checks.test("14: Returns 64 * x + 8 * y + z of the example; NONE if there is none, or it is not a claim.", () -> {
            ClaimJudge judge = Checks.of("x:x;!z=z;?x<7@5;?y<7@5;!z<7;!y>z");
            Checks.same("an assignment", ClaimJudge.NONE, judge.example(0));
            Checks.same("a proved claim", ClaimJudge.NONE, judge.example(1));
            Checks.same("a jump", ClaimJudge.NONE, judge.example(2));
            Checks.same("the last triple", 511, judge.example(4));
            Checks.same("the first triple", 0, judge.example(5));
            judge.assume(2, 3, 6);
            Checks.same("not reached or not failing", ClaimJudge.NONE, judge.example(4));
            Checks.same("0, 0, 3", 3, judge.example(5));
            judge.assume(0, 2, 2);
            judge.assume(1, 5, 6);
            Checks.same("2, 5, 5", 128 + 40 + 5, judge.example(5));
            judge.assume(2, 3, 4);
            Checks.same("none with bounds", ClaimJudge.NONE, judge.example(5));
            Checks.same("of a claim that is not reached", ClaimJudge.NONE, Checks.of("?x=x@2;!x#x").example(1));
        });
        Checks.test("14: Throws `IndexOutOfBoundsException` if there is no such statement", () -> {
            Checks.refusesIndex("of none", () -> new ClaimJudge().example(0));
            for (int size = 1; size <= 12; size++) {
                Checks.takesOnlyIndicesTo(size - 1, "example() of " + size,
                        Checks.of(Checks.many(size, "!x=1"))::example);
                Checks.takesOnlyIndicesTo(size - 1, "example() of " + size + " assignments", size(size)::example);
            }
        });
    }

    private static void proofs() {
        Checks.test("15: Returns the number of triples of the assumption whose runs are endless.", () -> {
            Checks.same("none without statements", 0, new ClaimJudge().endless());
            Checks.same("all", 512, Checks.of("?x=x@0").endless());
            Checks.same("one", 1, Checks.of("?x#7@3;?y#0@3;?z=5@2").endless());
            ClaimJudge judge = Checks.of("?y<3@0;?y=7@1");
            Checks.same("four values of y", 256, judge.endless());
            judge.assume(1, 2, 7);
            Checks.same("two of six", 128, judge.endless());
            judge.assume(0, 4, 4);
            judge.assume(2, 0, 1);
            Checks.same("two of six, with two values of z", 4, judge.endless());
            judge.assume(1, 3, 6);
            Checks.same("none of these", 0, judge.endless());
            Checks.same("failing runs are not endless", 0, Checks.of("!x#x;?x=x@1").endless());
        });
        Checks.test("16: Returns 2 if a claim is refuted; otherwise 0 if a run from a triple of the assumption is"
                + " endless; otherwise 1 (the program is proved: all its runs from the assumption succeed).",
                EdgesOfJudgingTest::proof);
        Checks.test("17: Returns the number of triples of the assumption whose runs succeed, as a double, divided by the"
                + " number of triples of the assumption, as a double.", EdgesOfJudgingTest::provedShare);
    }

    private static void proof() {
        Checks.same("without statements", 1, new ClaimJudge().proof());
        Checks.same("without claims", 1, Checks.of("x:1").proof());
        Checks.same("a claim that is not reached", 1, Checks.of("?x=x@2;!x#x").proof());
        Checks.same("refuted by the last triple alone", 2, Checks.of("?x#7@3;?y#7@3;!z#7").proof());
        Checks.same("refuted by the first triple alone", 2, Checks.of("?x#0@3;?y#0@3;!z#0").proof());
        Checks.same("endless for the last triple alone", 0, Checks.of("?x#7@3;?y#7@3;?z=7@2").proof());
        Checks.same("endless for the first triple alone", 0, Checks.of("?x#0@3;?y#0@3;?z=0@2").proof());
        Checks.same("one refutes, all others are endless", 2, Checks.of("?x#0@0;?y#0@0;?z#0@0;!x#0").proof());
        Checks.same("one is endless, all others refute", 2, Checks.of("?x=7@0;!x=7").proof());
        Checks.same("endless for all", 0, Checks.of("?x=x@0;!x#x").proof());
        ClaimJudge judge = Checks.of(ALL_ENDS);
        Checks.same("of all kinds", 2, judge.proof());
        judge.assume(0, 0, 6);
        judge.assume(1, 1, 7);
        Checks.same("without failures", 0, judge.proof());
        judge.assume(2, 7, 7);
        Checks.same("endless alone", 0, judge.proof());
        judge.assume(2, 0, 6);
        Checks.same("successes alone", 1, judge.proof());
        judge.assume(2, 6, 7);
        judge.assume(0, 6, 7);
        Checks.same("at the edges of the failures", 2, judge.proof());
    }

    private static void provedShare() {
        Checks.same("without statements", 1.0, new ClaimJudge().provedShare());
        Checks.same("none", 0.0, Checks.of("!x#x").provedShare());
        Checks.same("endless ones do not count", 0.0, Checks.of("?x=x@0").provedShare());
        Checks.same("a single one", 1.0 / 512.0, Checks.of("!x=7;!y=7;!z=7").provedShare());
        Checks.same("all but one", 511.0 / 512.0, Checks.of("?x#7@3;?y#7@3;!z#7").provedShare());
        ClaimJudge judge = Checks.of("!x=2;?y=3@1");
        Checks.same("an eighth, without an eighth of it", 56.0 / 512.0, judge.provedShare());
        judge.assume(0, 0, 2);
        judge.assume(1, 4, 6);
        judge.assume(2, 1, 1);
        Checks.same("a third, as exact as a double", 3.0 / 9.0, judge.provedShare());
        judge.assume(1, 0, 6);
        Checks.same("six of 21", 6.0 / 21.0, judge.provedShare());
        judge.assume(0, 2, 2);
        Checks.same("six of seven", 6.0 / 7.0, judge.provedShare());
        judge.assume(1, 3, 3);
        Checks.same("none of one", 0.0, judge.provedShare());
        judge.assume(1, 4, 4);
        Checks.same("one of one", 1.0, judge.provedShare());
    }

    private static void keptTruths() {
        Checks.test("18: Returns the least value; NONE if it is not reached.", () -> {
            ClaimJudge judge = Checks.of("?x=7@4;x:x+1;?x#7@0;?x=x@5;!y<2");
            Checks.same("at 0, from the beginning and later", 0, judge.least(0, 0));
            Checks.same("at 2, behind the assignment", 1, judge.least(2, 0));
            Checks.same("at 3", 7, judge.least(3, 0));
            Checks.same("at the claim", 7, judge.least(4, 0));
            Checks.same("at the end", 7, judge.least(5, 0));
            Checks.same("y at the end", 0, judge.least(5, 1));
            judge.assume(0, 7, 7);
            Checks.same("jumped over", ClaimJudge.NONE, judge.least(1, 0));
            judge.assume(1, 2, 7);
            Checks.same("before the failure", 2, judge.least(4, 1));
            Checks.same("nothing comes to the end", ClaimJudge.NONE, judge.least(5, 1));
            Checks.same("wrapped round to 0", 0, Checks.of("!z>4;z:z+1").least(2, 2));
            ClaimJudge countdown = Checks.of("z:z-1;?z#0@0");
            countdown.assume(2, 7, 7);
            Checks.same("a single run from 7 down to 1", 1, countdown.least(0, 2));
            Checks.same("and to 0 behind the assignment", 0, countdown.least(1, 2));
            ClaimJudge down = Checks.of("x:x-1;y:y-1;z:z-1");
            for (int variable = 0; variable < 3; variable++) {
                Checks.same("the first run comes with 7, 7, 7", 0, down.least(3, variable));
                Checks.same("at the twelfth", 0, size(12).least(12, variable));
            }
        });
        Checks.test("19: Returns the greatest value; NONE if it is not reached.", () -> {
            ClaimJudge judge = Checks.of("?x=0@4;x:x-1;?x#0@0;?x=x@5;!y>5");
            Checks.same("at 0, from the beginning and later", 7, judge.greatest(0, 0));
            Checks.same("at 2, behind the assignment", 6, judge.greatest(2, 0));
            Checks.same("at 3", 0, judge.greatest(3, 0));
            Checks.same("at the claim", 0, judge.greatest(4, 0));
            Checks.same("at the end", 0, judge.greatest(5, 0));
            Checks.same("y at the end", 7, judge.greatest(5, 1));
            judge.assume(0, 0, 0);
            Checks.same("jumped over", ClaimJudge.NONE, judge.greatest(1, 0));
            judge.assume(1, 0, 5);
            Checks.same("before the failure", 5, judge.greatest(4, 1));
            Checks.same("nothing comes to the end", ClaimJudge.NONE, judge.greatest(5, 1));
            Checks.same("wrapped round to 7", 7, Checks.of("!z<3;z:z-1").greatest(2, 2));
            ClaimJudge count = Checks.of("z:z+1;?z#0@0");
            count.assume(2, 0, 0);
            Checks.same("a single run from 0 up to 7", 7, count.greatest(0, 2));
            Checks.same("and from 1 behind the assignment", 7, count.greatest(1, 2));
            ClaimJudge up = Checks.of("x:x+1;y:y+1;z:z+1");
            for (int variable = 0; variable < 3; variable++) {
                Checks.same("the last run comes with 0, 0, 0", 7, up.greatest(3, variable));
                Checks.same("at the twelfth", 7, size(12).greatest(12, variable));
            }
        });
        Checks.test("18: Throws `IndexOutOfBoundsException` if statement is out of range", () -> {
            for (int size = 0; size <= 12; size++) {
                ClaimJudge judge = size(size);
                Checks.takesOnlyIndicesTo(size, "least() of " + size, n -> judge.least(n, 2));
            }
        });
        Checks.test("19: Throws `IndexOutOfBoundsException` if statement is out of range", () -> {
            for (int size = 0; size <= 12; size++) {
                ClaimJudge judge = size(size);
                Checks.takesOnlyIndicesTo(size, "greatest() of " + size, n -> judge.greatest(n, 2));
            }
        });
        Checks.test("or there is no such variable", () -> {
            ClaimJudge judge = Checks.of("x:1;y:2");
            for (int statement = 0; statement <= 2; statement++) {
                int at = statement;
                Checks.takesOnlyIndicesTo(2, "18: least() at " + at, n -> judge.least(at, n));
                Checks.takesOnlyIndicesTo(2, "19: greatest() at " + at, n -> judge.greatest(at, n));
            }
            Checks.refusesIndex("18: neither", () -> judge.least(3, 3));
            Checks.refusesIndex("19: neither", () -> judge.greatest(-1, -1));
        });
    }

    private static void widest() {
        Checks.test("20: Returns 10 times the lower bound, plus the upper bound, of the range of this variable with the"
                + " most values (the bounds of the others stay) with which proof() would be 1",
                EdgesOfJudgingTest::widestRanges);
        Checks.test("20: among several such ranges the one with the least lower bound", () -> {
            Checks.same("0 to 2 and 4 to 6", 2, Checks.of("!y#3;!y#7").widest(1));
            Checks.same("1 to 3 and 5 to 7", 13, Checks.of("!y#0;!y#4").widest(1));
            Checks.same("0, 2, 4 and 6", 0, Checks.of("!x#1;!x#3;!x#5;!x#7").widest(0));
            Checks.same("1, 3, 5 and 7", 11, Checks.of("!x#0;!x#2;!x#4;!x#6").widest(0));
            Checks.same("0 to 2 and 5 to 7", 2, Checks.of("!z#3;!z#4").widest(2));
            Checks.same("the second is longer", 57, Checks.of("!z#2;!z#4").widest(2));
            Checks.same("the second is as long as the third", 23, Checks.of("!z#1;!z#4;!z#7").widest(2));
        });
        Checks.test("20: NONE if there is none.", () -> {
            for (int variable = 0; variable < 3; variable++) {
                Checks.same("all fail", ClaimJudge.NONE, Checks.of("!x#x").widest(variable));
                Checks.same("all are endless", ClaimJudge.NONE, Checks.of("?x=x@0").widest(variable));
                Checks.same("some fail for each value", ClaimJudge.NONE,
                        Checks.of("?x#y@3;?y#z@3;!x#z;!x#y;!y#z;!x#z").widest(variable));
            }
            ClaimJudge judge = Checks.of("!x<y");
            judge.assume(1, 0, 0);
            Checks.same("with bounds of others", ClaimJudge.NONE, judge.widest(0));
            judge.assume(1, 1, 1);
            Checks.same("0 alone is not none", 0, judge.widest(0));
        });
        Checks.test("20: Throws `IndexOutOfBoundsException` if there is no such variable", () -> {
            Checks.takesOnlyIndicesTo(2, "widest()", Checks.of("!x<4")::widest);
            Checks.takesOnlyIndicesTo(2, "widest() without statements", new ClaimJudge()::widest);
        });
        Checks.test("forecasts; they change nothing", () -> {
            ClaimJudge judge = Checks.of("!x<4");
            judge.assume(0, 6, 6);
            Checks.same("widest()", 3, judge.widest(0));
            Checks.same("the bounds stay", 66, 10 * judge.least(0, 0) + judge.greatest(0, 0));
            Checks.same("the verdict stays", 2, judge.verdict(0));
            Checks.same("nothing is saved", 2, judge.savedStates());
            Checks.same("the same again", 3, judge.widest(0));
        });
    }

    private static void widestRanges() {
        for (int variable = 0; variable < 3; variable++) {
            char name = "xyz".charAt(variable);
            Checks.same("without statements", 7, new ClaimJudge().widest(variable));
            for (int low = 0; low < 8; low++) {
                for (int high = low; high < 8; high++) {
                    String text = "?" + name + "<" + low + "@3;?" + name + ">" + high + "@3;?x=x@4;!x#x";
                    Checks.same(name + " from " + low + " to " + high, 10 * low + high, Checks.of(text).widest(variable));
                }
            }
        }
        for (int value = 0; value < 8; value++) {
            String single = "?x#%@4;?y#%@4;?z#%@4;!x#x".replace("%", "" + value);
            int due = value < 4 ? 10 * (value + 1) + 7 : value - 1;
            for (int variable = 0; variable < 3; variable++) {
                Checks.same("but a single triple of " + value, due, Checks.of(single).widest(variable));
                Checks.same("endless for it", due, Checks.of(single.replace("!x#x", "?x=x@3")).widest(variable));
            }
        }
        Checks.same("the runs begin at 0", 7, Checks.of("x:1;!x=1").widest(0));
        Checks.same("the runs begin at 0", 7, Checks.of("z:6;!z=6").widest(2));
        ClaimJudge judge = Checks.of("!x<y;?z=0@1");
        judge.assume(1, 3, 4);
        Checks.same("z = 0 is endless for all x", ClaimJudge.NONE, judge.widest(0));
        judge.assume(2, 1, 7);
        Checks.same("with bounds of the others", 2, judge.widest(0));
        judge.assume(0, 5, 5);
        Checks.same("its own bounds do not matter", 2, judge.widest(0));
        Checks.same("y behind 5", 67, judge.widest(1));
        judge.assume(1, 6, 7);
        Checks.same("z but 0", 17, judge.widest(2));
        judge.assume(0, 6, 6);
        Checks.same("none as x = y is within", ClaimJudge.NONE, judge.widest(2));
    }
}
