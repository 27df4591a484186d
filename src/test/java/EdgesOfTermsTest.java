import java.util.function.Consumer;

/** The edges that the document's terms name: a test for each of their sentences. */
public final class EdgesOfTermsTest {
    private static final String TESTS = "=<>#";
    private static final String VARIABLES = "xyz";

    public static void main(String[] args) {
        programs();
        runs();
        judging();
        inputText();
        undo();
        exceptions();
        Checks.finish();
    }

    private static void programs() {
        Checks.test("every result r of arithmetic is replaced by its remainder modulo 8, from 0 to 7 (so -1 becomes 7)",
                EdgesOfTermsTest::resultsWrapRound);
        Checks.test("A program is a sequence of at most 12 statements, which are numbered from 0.",
                EdgesOfTermsTest::atMostTwelveStatements);
        Checks.test("a new value, which is the value of a variable or a number from 0 to 7, plus or minus a number"
                + " from 0 to 7", EdgesOfTermsTest::numbersOfAssignments);
        Checks.test("a statement number from 0 to the number of statements of the program",
                EdgesOfTermsTest::numbersOfJumps);
        Checks.test("if the test holds, the program goes on with that statement (or ends, if the number is that of"
                + " the statements), otherwise with the next one", EdgesOfTermsTest::waysOfJumps);
        Checks.test("A test compares a variable with the value of a variable or a number:",
                EdgesOfTermsTest::comparisons);
        Checks.test("After an assignment or a claim, the program goes on with the next statement; it ends behind the"
                + " last one.", EdgesOfTermsTest::endsBehindTheLast);
    }

    private static void resultsWrapRound() {
        for (int number = -7; number <= 7; number++) {
            String sum = number < 0 ? "-" + -number : "+" + number;
            ClaimJudge own = Checks.of("x:x" + sum);
            ClaimJudge other = Checks.of("z:y" + sum);
            for (int value = 0; value < 8; value++) {
                int due = ((value + number) % 8 + 8) % 8;
                Checks.same("x:x" + sum + " of " + value, 1000 + 64 * due + 42, own.run(value, 5, 2));
                Checks.same("z:y" + sum + " of " + value, 1000 + 64 * 5 + 8 * value + due, other.run(5, value, 2));
                Checks.same("y:" + value + sum, 1000 + 64 * 3 + 8 * due + 6,
                        Checks.of("y:" + value + sum).run(3, 1, 6));
            }
        }
    }

    private static void atMostTwelveStatements() {
        ClaimJudge judge = Checks.of("?y#0@11;" + Checks.many(10, "x:x") + ";!y=0");
        Checks.same("twelve", 12, judge.statements());
        Checks.same("the first has the number 0", 2, judge.kind(0));
        Checks.same("the last has the number 11", 1, judge.kind(11));
        Checks.same("a run fails at 11", 11, judge.run(0, 1, 0));
        Checks.type(judge, Checks.many(13, "x:x"));
        Checks.refusesArgument("load() of thirteen", judge::load);
        judge.clearBuffer();
        Checks.type(judge, "x:x");
        Checks.refusesArgument("add() of a thirteenth", judge::add);
    }

    private static void numbersOfAssignments() {
        for (int digit = 0; digit < 10; digit++) {
            for (String text : new String[] {"x:" + digit, "x:" + digit + "-1", "x:y+" + digit, "x:1-" + digit}) {
                ClaimJudge judge = new ClaimJudge();
                Checks.type(judge, text);
                if (digit < 8) {
                    Checks.same(text, 1, judge.load());
                } else {
                    Checks.refusesArgument(text, judge::load);
                }
            }
        }
    }

    private static void numbersOfJumps() {
        for (int size = 1; size <= 12; size++) {
            for (int number = 0; number <= 13; number++) {
                ClaimJudge judge = new ClaimJudge();
                Checks.type(judge, "?x=0@" + number + (size == 1 ? "" : ";" + Checks.many(size - 1, "x:x")));
                if (number <= size) {
                    Checks.same("a jump to " + number + " of " + size, size, judge.load());
                    Checks.same("its number", number, judge.target(0));
                } else {
                    Checks.refusesArgument("a jump to " + number + " of " + size, judge::load);
                }
            }
        }
    }

    private static void waysOfJumps() {
        Checks.same("to the end from the last", 1001, Checks.of("?x=0@1").run(0, 0, 1));
        Checks.same("not taken at the last", 1065, Checks.of("?x=0@1").run(1, 0, 1));
        Checks.same("to the end over a claim", 1000, Checks.of("?x=0@2;!x=7").run(0, 0, 0));
        Checks.same("not taken: the claim is next", 1, Checks.of("?x=0@2;!x=7").run(1, 0, 0));
        Checks.same("to the next one", 1, Checks.of("?x=0@1;!x=7").run(0, 0, 0));
        Checks.same("to itself", ClaimJudge.NONE, Checks.of("?x=0@0").run(0, 0, 0));
        Checks.same("back to 0", 1007, Checks.of("z:z+1;?z#7@0").run(0, 0, 0));
        ClaimJudge full = Checks.of("?x=0@12;!x=7;" + Checks.many(9, "x:x") + ";y:1");
        Checks.same("to 12 of twelve", 1000, full.run(0, 0, 0));
        Checks.same("not taken in twelve", 1, full.run(1, 0, 0));
        Checks.same("through all twelve", 1000 + 7 * 64 + 8, full.run(7, 0, 0));
    }

    private static void comparisons() {
        for (char sign : TESTS.toCharArray()) {
            for (int left = 0; left < 3; left++) {
                for (int number = 0; number < 8; number++) {
                    comparedWithNumber(left, sign, number);
                }
                for (int right = 0; right < 3; right++) {
                    comparedWithVariable(left, sign, right);
                }
            }
        }
    }

    private static boolean holds(int left, char sign, int right) {
        int order = Integer.compare(left, right);
        return sign == '=' ? order == 0 : sign == '<' ? order < 0 : sign == '>' ? order > 0 : order != 0;
    }

    private static void comparedWithNumber(int left, char sign, int number) {
        String text = "" + VARIABLES.charAt(left) + sign + number;
        ClaimJudge claim = Checks.of("!" + text);
        ClaimJudge jump = Checks.of("?" + text + "@2;!x#x");
        for (int value = 0; value < 8; value++) {
            int[] values = {3, 3, 3};
            values[left] = value;
            boolean due = holds(value, sign, number);
            Checks.same("!" + text + " for " + value, due, claim.demands(0, values[0], values[1], values[2]));
            Checks.same("?" + text + " for " + value, due, jump.demands(0, values[0], values[1], values[2]));
        }
    }

    private static void comparedWithVariable(int left, char sign, int right) {
        String text = "" + VARIABLES.charAt(left) + sign + VARIABLES.charAt(right);
        ClaimJudge claim = Checks.of("!" + text);
        ClaimJudge jump = Checks.of("?" + text + "@2;!x#x");
        for (int n = 0; n < 64; n++) {
            int[] values = {4, 4, 4};
            values[left] = n / 8;
            values[right] = n % 8;
            boolean due = holds(values[left], sign, values[right]);
            Checks.same("!" + text + " for " + n, due, claim.demands(0, values[0], values[1], values[2]));
            Checks.same("?" + text + " for " + n, due, jump.demands(0, values[0], values[1], values[2]));
        }
    }

    private static void endsBehindTheLast() {
        Checks.same("without statements", 1000 + 511, new ClaimJudge().run(7, 7, 7));
        Checks.same("behind a single assignment", 1000 + 64, Checks.of("x:1").run(0, 0, 0));
        Checks.same("behind a single claim", 1000, Checks.of("!x=0").run(0, 0, 0));
        Checks.same("from an assignment to a claim", 1, Checks.of("x:1;!x=0").run(0, 0, 0));
        Checks.same("from a claim to an assignment", 1000 + 64, Checks.of("!x=0;x:1").run(0, 0, 0));
        ClaimJudge full = Checks.of(Checks.many(10, "x:x+1"));
        Checks.add(full, "x:x+1;x:x+1");
        Checks.same("behind the twelfth", 1000 + 4 * 64, full.run(0, 0, 0));
        Checks.same("each of the twelve once", 12, full.steps(0, 0, 0));
        full.removeLast();
        Checks.same("behind the eleventh, then", 1000 + 3 * 64, full.run(0, 0, 0));
    }

    private static void runs() {
        Checks.test("A run begins at statement 0 with values of x, y and z.", () -> {
            Checks.same("at 0", 0, Checks.of("!x#x;!x=x").run(0, 0, 0));
            Checks.same("with 1, 2, 3", 1083, Checks.of("!x=1;!y=2;!z=3").run(1, 2, 3));
            Checks.same("with 0, 0, 0", 1000, Checks.of("!x=0;!y=0;!z=0").run(0, 0, 0));
            Checks.same("with 7, 7, 7", 1511, Checks.of("!x=7;!y=7;!z=7").run(7, 7, 7));
        });
        Checks.test("If it comes to a claim whose test does not hold, it fails there.", () -> {
            Checks.same("at the first of two", 0, Checks.of("!x=1;!x=1").run(0, 0, 0));
            Checks.same("at the last of twelve", 11, Checks.of(Checks.many(11, "x:x") + ";!x=1").run(0, 0, 0));
            Checks.same("a claim that is jumped over", 1000, Checks.of("?x=0@2;!x=1").run(0, 0, 0));
            Checks.same("a claim that held twice before", 0, Checks.of("!x#2;x:x+1;?x=x@0").run(0, 0, 0));
            Checks.same("before a loop without end", 0, Checks.of("!x=1;?x=x@1").run(0, 0, 0));
        });
        Checks.test("this is so exactly if it comes to the same statement with the same values again",
                EdgesOfTermsTest::endlessOrLong);
        Checks.test("A run succeeds if it ends without a failure.", () -> {
            Checks.same("without statements", 512, new ClaimJudge().demand(0));
            Checks.same("failing nowhere", 512, Checks.of("x:1;!x=1").demand(0));
            Checks.same("failing always", 0, Checks.of("x:1;!x=0").demand(0));
            Checks.same("endless always", 0, Checks.of("x:1;?x=1@1").demand(0));
        });
        Checks.test("The demand behind the last statement is the set of all 512 triples.", () -> {
            for (int size = 0; size <= 12; size++) {
                ClaimJudge judge = size == 0 ? new ClaimJudge() : Checks.of(Checks.many(size, "!x#x"));
                Checks.same("behind " + size, 512, judge.demand(size));
                Checks.same("behind " + size + ": 0, 0, 0", true, judge.demands(size, 0, 0, 0));
                Checks.same("behind " + size + ": 7, 7, 7", true, judge.demands(size, 7, 7, 7));
                Checks.same("before that", size == 0 ? 512 : 0, judge.demand(0));
            }
        });
    }

    /** 8 * 512 + 2 * 64 + 2 * 8 places, each of them met once. */
    private static final String LONG_LOOP = "x:x+1;" + Checks.many(6, "x:x") + ";?x#0@0;y:y+1;?y#0@0";

    private static void endlessOrLong() {
        ClaimJudge judge = Checks.of(LONG_LOOP);
        Checks.add(judge, "z:z+1;?z#0@0");
        Checks.same("a long run ends", 1000, judge.run(0, 0, 0));
        Checks.same("after so many steps", 8 * 512 + 2 * 64 + 2 * 8, judge.steps(0, 0, 0));
        Checks.same("all of them end", 0, judge.endless());
        judge.removeLast();
        Checks.add(judge, "?z=z@0");
        Checks.same("as long, but back where it was", ClaimJudge.NONE, judge.run(0, 0, 0));
        Checks.same("its steps", ClaimJudge.NONE, judge.steps(0, 0, 0));
        Checks.same("all of them are endless", 512, judge.endless());
        Checks.same("the same statement with other values", 1000, Checks.of("x:x+1;?x#0@0").run(1, 0, 0));
        Checks.same("the same values at other statements", 1000, Checks.of("x:x;x:x;?x#x@0").run(0, 0, 0));
        Checks.same("a jump to itself", ClaimJudge.NONE, Checks.of("?x=x@0").run(0, 0, 0));
        Checks.same("a way into a loop", ClaimJudge.NONE, Checks.of("x:x+1;?x<6@0;y:5;?y=5@2").run(0, 0, 0));
        Checks.same("round and round with x + 2", ClaimJudge.NONE, Checks.of("x:x+2;?x#1@0").run(0, 0, 0));
        Checks.same("but not from 1", 1064, Checks.of("x:x+2;?x#1@0").run(1, 0, 0));
    }

    private static void judging() {
        Checks.test("for each variable a lower and an upper bound from 0 to 7, at first 0 and 7", () -> {
            ClaimJudge judge = new ClaimJudge();
            for (int variable = 0; variable < 3; variable++) {
                Checks.same("the lower bound of " + variable, 0, judge.least(0, variable));
                Checks.same("the upper bound of " + variable, 7, judge.greatest(0, variable));
                Checks.same("nothing changes", 512, judge.assume(variable, 0, 7));
            }
        });
        Checks.test("The triples of the assumption are those whose values are all within their bounds.",
                EdgesOfTermsTest::withinTheBounds);
        Checks.test("A statement is reached if a run from some triple of the assumption comes to it.",
                EdgesOfTermsTest::reached);
        Checks.test("0 it is not reached; 1 it is proved: it is reached, and no run from a triple of the assumption"
                + " fails there; 2 it is refuted: a run from some triple of the assumption fails there.",
                EdgesOfTermsTest::verdicts);
        Checks.test("An example against a claim is the least triple of the assumption whose run fails there, where"
                + " triples are compared by 64 * x + 8 * y + z.", EdgesOfTermsTest::examples);
        Checks.test("the least and the greatest value that it has in all runs from triples of the assumption whenever"
                + " they come to this statement (before it is executed; for the number of statements: at the end)",
                EdgesOfTermsTest::keptTruths);
        Checks.test("There are none if it is not reached.", () -> {
            ClaimJudge judge = Checks.of("?x=x@2;z:z;!y#y");
            for (int variable = 0; variable < 3; variable++) {
                Checks.same("jumped over", ClaimJudge.NONE, judge.least(1, variable));
                Checks.same("jumped over", ClaimJudge.NONE, judge.greatest(1, variable));
                Checks.same("the end behind a failure", ClaimJudge.NONE, judge.least(3, variable));
                Checks.same("the end behind a failure", ClaimJudge.NONE, judge.greatest(3, variable));
                Checks.same("the failing claim itself is reached", 0, judge.least(2, variable));
                Checks.same("the failing claim itself is reached", 7, judge.greatest(2, variable));
            }
        });
    }

    private static void withinTheBounds() {
        for (int variable = 0; variable < 3; variable++) {
            for (int value = 0; value < 8; value++) {
                ClaimJudge judge = Checks.of("!" + VARIABLES.charAt(variable) + "#" + value);
                Checks.same("all values: " + value, 64.0 * 7 / 512, judge.provedShare());
                judge.assume(variable, 2, 5);
                boolean within = value >= 2 && value <= 5;
                Checks.same("from 2 to 5: " + value, within ? 2 : 1, judge.verdict(0));
                judge.assume(variable, value, value);
                Checks.same("this value alone: " + value, 2, judge.verdict(0));
                Checks.same("this value alone: " + value, 0.0, judge.provedShare());
            }
        }
        ClaimJudge all = Checks.of("?x#1@3;?y#1@3;!z#1");
        all.assume(0, 0, 1);
        all.assume(1, 1, 3);
        Checks.same("all within", 2, all.verdict(2));
        all.assume(2, 2, 7);
        Checks.same("x and y within, z is not", 1, all.verdict(2));
        all.assume(2, 1, 1);
        all.assume(1, 2, 2);
        Checks.same("x and z within, y is not", 0, all.verdict(2));
    }

    private static void reached() {
        String onlyFrom = "?x#%@4;?y#%@4;?z#%@4;!x=x";
        for (int value = 0; value < 8; value++) {
            ClaimJudge judge = Checks.of(onlyFrom.replace("%", "" + value));
            Checks.same("from a single triple", 1, judge.verdict(3));
            Checks.same("from a single triple", value, judge.least(3, 2));
            judge.assume(0, value, value);
            judge.assume(2, value, value);
            Checks.same("with bounds around it", 1, judge.verdict(3));
            judge.assume(1, value == 0 ? 1 : 0, value == 0 ? 7 : value - 1);
            Checks.same("with bounds beside it", 0, judge.verdict(3));
        }
        ClaimJudge ends = Checks.of("!x<4;?x=3@1");
        Checks.same("the end", 0, ends.least(2, 0));
        Checks.same("the end", 2, ends.greatest(2, 0));
        ends.assume(0, 3, 7);
        Checks.same("no run ends", ClaimJudge.NONE, ends.least(2, 0));
        Checks.same("the first statement is always reached", 3, ends.least(0, 0));
    }

    private static void verdicts() {
        ClaimJudge judge = Checks.of("?x#7@4;?y#7@4;?z#7@4;!z#7");
        Checks.same("refuted by the last triple alone", 2, judge.verdict(3));
        judge.assume(2, 0, 6);
        Checks.same("not reached without it", 0, judge.verdict(3));
        Checks.same("refuted by the first triple alone", 2, Checks.of("?x#0@4;?y#0@4;?z#0@4;!z#0").verdict(3));
        Checks.same("refuted by all", 2, Checks.of("!x#x").verdict(0));
        Checks.same("not reached: all fail before", 0, Checks.of("!x#x;!x#x").verdict(1));
        Checks.same("not reached: jumped over", 0, Checks.of("?x=x@2;!x#x").verdict(1));
        Checks.same("not reached: endless before", 0, Checks.of("?x=x@0;!x#x").verdict(1));
        Checks.same("proved", 1, Checks.of("!x=x").verdict(0));
        Checks.same("proved in a loop without end", 1, Checks.of("!x=x;?x=x@0").verdict(0));
        Checks.same("proved by those that come through", 1, Checks.of("!x<3;!x<3").verdict(1));
        Checks.same("refuted when it is met again", 2, Checks.of("x:0;!x<3;x:x+1;?x=x@1").verdict(1));
        ClaimJudge twelve = Checks.of(Checks.many(11, "!x<7") + ";!y<7");
        Checks.same("the first of twelve", 2, twelve.verdict(0));
        Checks.same("the last of twelve", 2, twelve.verdict(11));
        twelve.assume(1, 0, 6);
        Checks.same("proved with bounds", 1, twelve.verdict(11));
    }

    private static void examples() {
        Checks.same("the first triple", 0, Checks.of("!x#x").example(0));
        Checks.same("the last triple", 511, Checks.of("?x#7@4;?y#7@4;?z#7@4;!z#7").example(3));
        Checks.same("y and z up to 7 come before x = 1", 63, Checks.of("?x>0@2;?y#z@4;?x=1@4;!z#7").example(3));
        Checks.same("z up to 7 comes before y = 1", 7, Checks.of("?y>0@2;?z#7@3;!x#x").example(2));
        Checks.same("the values at the beginning count", 3, Checks.of("?z<3@3;z:0;!z#0").example(2));
        ClaimJudge judge = Checks.of("!x<y;!y<z");
        Checks.same("x = y = 0", 0, judge.example(0));
        Checks.same("0, 1, 0", 8, judge.example(1));
        judge.assume(0, 2, 5);
        judge.assume(1, 4, 6);
        judge.assume(2, 5, 7);
        Checks.same("with bounds: 4, 4, 5", 4 * 64 + 4 * 8 + 5, judge.example(0));
        Checks.same("with bounds: 2, 5, 5", 2 * 64 + 5 * 8 + 5, judge.example(1));
        judge.assume(0, 5, 5);
        Checks.same("with bounds: 5, 4, 5", 5 * 64 + 4 * 8 + 5, judge.example(0));
        Checks.same("with bounds: 5, 6, 5", 5 * 64 + 6 * 8 + 5, judge.example(1));
        judge.assume(2, 7, 7);
        Checks.same("none", ClaimJudge.NONE, judge.example(1));
    }

    private static void keptTruths() {
        ClaimJudge judge = Checks.of("x:x+3;y:2;?x#7@0;z:z-1");
        judge.assume(0, 1, 1);
        judge.assume(2, 0, 1);
        Checks.same("x at 0, all visits", 1, judge.least(0, 0));
        Checks.same("x at 0, all visits", 4, judge.greatest(0, 0));
        Checks.same("x at 1, behind the assignment", 4, judge.least(1, 0));
        Checks.same("x at 1, behind the assignment", 7, judge.greatest(1, 0));
        Checks.same("y at 1, before the assignment", 0, judge.least(1, 1));
        Checks.same("y at 1, before the assignment", 7, judge.greatest(1, 1));
        Checks.same("y at 2", 2, judge.least(2, 1));
        Checks.same("y at 2", 2, judge.greatest(2, 1));
        Checks.same("x at 3", 7, judge.least(3, 0));
        Checks.same("z at 3, before the assignment", 0, judge.least(3, 2));
        Checks.same("z at 3, before the assignment", 1, judge.greatest(3, 2));
        Checks.same("z at the end, wrapped round", 0, judge.least(4, 2));
        Checks.same("z at the end, wrapped round", 7, judge.greatest(4, 2));
        ClaimJudge endless = Checks.of("x:x+1;?x=x@0");
        endless.assume(0, 3, 3);
        Checks.same("endless runs count: at 0", 0, endless.least(0, 0));
        Checks.same("endless runs count: at 1", 7, endless.greatest(1, 0));
        ClaimJudge counter = Checks.of(LONG_LOOP);
        Checks.add(counter, "z:z+1;?z#0@0");
        for (int variable = 0; variable < 3; variable++) {
            counter.assume(variable, 0, 0);
        }
        for (int variable = 0; variable < 3; variable++) {
            Checks.same("in a long run at 1, " + variable, 0, counter.least(1, variable));
            Checks.same("in a long run at 1, " + variable, 7, counter.greatest(1, variable));
            Checks.same("behind a long run, " + variable, 0, counter.greatest(12, variable));
        }
        ClaimJudge failing = Checks.of("!x<5;x:x");
        Checks.same("failing runs count where they fail", 7, failing.greatest(0, 0));
        Checks.same("but not behind it", 4, failing.greatest(1, 0));
    }

    private static void inputText() {
        Checks.test("The buffer contains at most 60 characters, and is empty at first.", () -> {
            ClaimJudge judge = new ClaimJudge();
            Checks.same("empty at first", 0, judge.clearBuffer());
            Checks.type(judge, Checks.many(10, "x:x+1") + ";");
            Checks.refusesState("the character behind 60", () -> judge.append('x'));
            Checks.same("sixty", 60, judge.clearBuffer());
            Checks.type(judge, Checks.many(10, "x:x+1"));
            Checks.same("empty again, and filled anew", 60, judge.append(';'));
        });
        Checks.test("A program text is 1 to 12 statements with \";\" between them:", EdgesOfTermsTest::separators);
        Checks.test("and perhaps \"+\" or \"-\" and a digit from 0 to 7", () -> {
            loads("x:x", "x:7", "z:z+0", "y:0-7");
            refused("x:x+", "x:x-", "x:x1", "x:11", "x:1+1+1", "x:1+-1", "x:1+y", "x:1+8", "x:1-9", "x:+1", "x:-1");
        });
        Checks.test("a test is a variable, one of the signs \"=\", \"<\", \">\" and \"#\", and a variable or a digit"
                + " from 0 to 7", () -> {
            loads("!x=0", "!y<7", "!z>x", "!x#y", "!x=z", "?x=0@0", "?z#7@1");
            refused("!", "!x", "!x=", "!=0", "!0=x", "!x=8", "!x=9", "!x:0", "!x<>0", "!x==0", "!x0", "!x=w", "!w=0",
                    "!x!0", "!x=0+1", "!x=01", "!x=0@0", "?@0", "?x@0", "?x=@0", "?x=8@0", "?0=0@0", "?x=0+1@0");
        });
        Checks.test("a number from 0 to 12 without leading zeros", () -> {
            String eleven = ";" + Checks.many(11, "x:x");
            for (int number = 0; number < 100; number++) {
                if (number <= 12) {
                    loads("?x=0@" + number + eleven);
                } else {
                    refused("?x=0@" + number + eleven);
                }
            }
            for (String number : new String[] {"", "00", "01", "09", "010", "012", "000", "120", "111", "-1", "+1", "x"}) {
                refused("?x=0@" + number + eleven);
            }
        });
        Checks.test("A character of the buffer is an error if no program text, however long, begins with the characters"
                + " before it and this character.", EdgesOfTermsTest::errors);
        Checks.test("(Whether the number of a jump is at most the number of statements does not matter for this.)", () -> {
            for (int number = 0; number <= 12; number++) {
                fits("?x=0@" + number, true);
                fits("?x=0@" + number + ";", true);
            }
            fits(Checks.many(11, "x:x") + ";?x=0@12", true);
        });
    }

    private static void loads(String... texts) {
        for (String text : texts) {
            ClaimJudge judge = new ClaimJudge();
            Checks.type(judge, text);
            Checks.same("load() of " + text, text.split(";").length, judge.load());
        }
    }

    private static void refused(String... texts) {
        for (String text : texts) {
            ClaimJudge judge = new ClaimJudge();
            Checks.type(judge, text);
            Checks.refusesArgument("load() of " + text, judge::load);
            Checks.refusesArgument("add() of " + text, judge::add);
        }
    }

    private static void separators() {
        for (int size = 1; size <= 12; size++) {
            loads(Checks.many(size, "!x=1"));
            refused(Checks.many(size, "!x=1") + ";");
            refused(";" + Checks.many(size, "!x=1"));
        }
        refused("", ";", ";;", "x:1;;x:1", "x:1,x:1", "x:1!x=1", "x:1?x=1@0", "x:1x:1", Checks.many(13, "x:1"));
    }

    /** Whether the last character of a text, behind others that fit, fits as well. */
    private static void fits(String text, boolean due) {
        ClaimJudge judge = new ClaimJudge();
        Checks.type(judge, text);
        Checks.same("firstError() of " + text, due ? text.length() : text.length() - 1, judge.firstError());
    }

    private static void errors() {
        String eleven = Checks.many(11, "x:1") + ";";
        String fiftyNine = Checks.many(9, "x:y+1") + ";x:y+";
        String[][] next = {
            {"", "xyz!?"}, {"x", ":"}, {"y:", "xyz01234567"}, {"x:z", "+-;"}, {"x:0", "+-;"}, {"x:0+", "01234567"},
            {"x:y-", "01234567"}, {"x:y-7", ";"}, {"x:1;", "xyz!?"}, {"!", "xyz"}, {"!z", TESTS}, {"!x#", "xyz01234567"},
            {"!x#x", ";"}, {"!x<0", ";"}, {"!x<0;", "xyz!?"}, {"?", "xyz"}, {"?y", TESTS}, {"?y>", "xyz01234567"},
            {"?y>7", "@"}, {"?y>x", "@"}, {"?y>7@", "0123456789"}, {"?y>7@0", ";"}, {"?y>7@1", "012;"}, {"?y>7@2", ";"},
            {"?y>7@9", ";"}, {"?y>7@10", ";"}, {"?y>7@11", ";"}, {"?y>7@12", ";"}, {"?y>7@12;", "xyz!?"},
            {eleven, "xyz!?"}, {eleven + "x:1", "+-"}, {eleven + "x:1+7", ""}, {eleven + "!x=0", ""},
            {eleven + "?x=0@1", "012"}, {eleven + "?x=0@2", ""}, {eleven + "?x=0@12", ""}, {fiftyNine, "01234567"},
        };
        for (String[] row : next) {
            for (char c = 33; c <= 126; c++) {
                fits(row[0] + c, row[1].indexOf(c) >= 0);
            }
        }
    }

    private static void undo() {
        Checks.test("Each method that is marked \"Undoable\" saves the state from before the call if it does not throw an"
                + " exception, even if nothing changes.", EdgesOfTermsTest::savesEvenIfNothingChanges);
        Checks.test("At most 6 states are saved; when one more is saved, the oldest one is discarded.",
                EdgesOfTermsTest::atMostSixStates);
    }

    private static void savesEvenIfNothingChanges() {
        ClaimJudge judge = Checks.of("!x#3");
        long before = judge.digest();
        Checks.same("load() saves", 1, judge.savedStates());
        Checks.load(judge, "!x#3");
        Checks.same("load() of the same program saves", 2, judge.savedStates());
        judge.assume(1, 0, 7);
        Checks.same("assume() of the same bounds saves", 3, judge.savedStates());
        Checks.add(judge, "x:x");
        Checks.same("add() saves", 4, judge.savedStates());
        judge.removeLast();
        Checks.same("removeLast() saves", 5, judge.savedStates());
        Checks.same("nothing has changed", before, judge.digest());
        Checks.same("undo", 4, judge.undo());
        Checks.same("the added statement is back", 2, judge.statements());
        judge.undo();
        judge.undo();
        Checks.same("undo of the second load()", 1, judge.undo());
        Checks.same("nothing has changed", before, judge.digest());
        judge.undo();
        Checks.same("undo of the first load()", 0, judge.statements());
        judge.append('x');
        judge.clearBuffer();
        judge.firstError();
        Checks.same("what is not marked saves nothing", 0, judge.savedStates());
    }

    private static void atMostSixStates() {
        for (int saves = 0; saves <= 20; saves++) {
            ClaimJudge judge = new ClaimJudge();
            for (int n = 1; n <= saves; n++) {
                judge.assume(n % 2, n % 8, 7);
            }
            int left = Math.min(saves, 6);
            Checks.same(saves + " saves", left, judge.savedStates());
            for (int n = saves; left > 0; n--) {
                left--;
                Checks.same("undo of save " + n + " of " + saves, left, judge.undo());
                int even = n - 1 - (n - 1) % 2;
                int odd = n - 1 - n % 2;
                Checks.same("x before save " + n, even < 2 ? 0 : even % 8, judge.least(0, 0));
                Checks.same("y before save " + n, odd < 1 ? 0 : odd % 8, judge.least(0, 1));
            }
            Checks.refusesState("undo of a discarded state", judge::undo);
        }
    }

    private static void exceptions() {
        Checks.test("A call that throws an exception changes nothing.", EdgesOfTermsTest::refusedCallsChangeNothing);
        Checks.test("If more than one exception applies to a call, the one that is listed first in its throws clause is"
                + " thrown.", () -> {
            ClaimJudge judge = Checks.of("x:1");
            Checks.refusesIndex("demands()", () -> judge.demands(2, 8, -1, 9));
            Checks.refusesIndex("demands()", () -> judge.demands(-1, 0, 0, 8));
            Checks.refusesIndex("assume()", () -> judge.assume(3, 5, 4));
            Checks.refusesIndex("assume()", () -> judge.assume(-1, -1, 8));
            Checks.type(judge, Checks.many(15, "x:1"));
            judge.append(';');
            Checks.refusesArgument("append() to a full buffer", () -> judge.append(32));
            Checks.refusesArgument("append() to a full buffer", () -> judge.append(127));
            Checks.refusesState("a good character", () -> judge.append(33));
        });
    }

    /** Six saved states, so that one more would be seen; a buffer that neither load() nor add() takes. */
    private static ClaimJudge busy() {
        ClaimJudge judge = Checks.of("!y<7;z:z+1;?x=x@4;!z#7");
        for (int n = 1; n <= 5; n++) {
            judge.assume(n % 3, n % 2, 8 - n);
        }
        Checks.add(judge, "?x>4@5");
        Checks.type(judge, "?z=1@7;y:6");
        return judge;
    }

    private static ClaimJudge empty() {
        ClaimJudge judge = new ClaimJudge();
        Checks.type(judge, "?z=1@2");
        return judge;
    }

    /** Twelve statements, and sixty characters that could be loaded. */
    private static ClaimJudge full() {
        ClaimJudge judge = Checks.of(Checks.many(11, "x:y") + ";!x<6");
        Checks.type(judge, Checks.many(9, "x:x+1") + ";?x=1@0");
        return judge;
    }

    private static ClaimJudge tooMuch() {
        ClaimJudge judge = Checks.of("x:y");
        Checks.type(judge, Checks.many(13, "x:1"));
        return judge;
    }

    private static void argument(String what, Consumer<ClaimJudge> call) {
        Trace.refusedChangesNothing(what, IllegalArgumentException.class, EdgesOfTermsTest::busy, call);
    }

    private static void index(String what, Consumer<ClaimJudge> call) {
        Trace.refusedChangesNothing(what, IndexOutOfBoundsException.class, EdgesOfTermsTest::busy, call);
    }

    private static void refusedCallsChangeNothing() {
        argument("load() with a jump too far", ClaimJudge::load);
        argument("run()", judge -> judge.run(0, 8, 0));
        argument("steps()", judge -> judge.steps(0, 0, -1));
        argument("demands()", judge -> judge.demands(0, 8, 0, 0));
        argument("assume() with low", judge -> judge.assume(0, -1, 3));
        argument("assume() with high", judge -> judge.assume(1, 3, 8));
        argument("assume() with high below low", judge -> judge.assume(2, 3, 2));
        argument("append() of 32", judge -> judge.append(32));
        argument("append() of 127", judge -> judge.append(127));
        index("kind()", judge -> judge.kind(5));
        index("target()", judge -> judge.target(-1));
        index("demand()", judge -> judge.demand(6));
        index("demands()", judge -> judge.demands(6, 0, 0, 0));
        index("assume()", judge -> judge.assume(3, 0, 3));
        index("verdict()", judge -> judge.verdict(5));
        index("example()", judge -> judge.example(-1));
        index("least()", judge -> judge.least(6, 0));
        index("least()", judge -> judge.least(0, 3));
        index("greatest()", judge -> judge.greatest(-1, 0));
        index("greatest()", judge -> judge.greatest(0, -1));
        index("widest()", judge -> judge.widest(3));
        Trace.refusedChangesNothing("add() with a jump too far", IllegalArgumentException.class,
                EdgesOfTermsTest::empty, ClaimJudge::add);
        Trace.refusedChangesNothing("removeLast()", IllegalStateException.class,
                EdgesOfTermsTest::empty, ClaimJudge::removeLast);
        Trace.refusedChangesNothing("undo()", IllegalStateException.class, EdgesOfTermsTest::empty, ClaimJudge::undo);
        Trace.refusedChangesNothing("load() of too much", IllegalArgumentException.class,
                EdgesOfTermsTest::tooMuch, ClaimJudge::load);
        Trace.refusedChangesNothing("add() of too much", IllegalArgumentException.class,
                EdgesOfTermsTest::full, ClaimJudge::add);
        Trace.refusedChangesNothing("append() to much", IllegalStateException.class,
                EdgesOfTermsTest::full, judge -> judge.append('x'));
    }
}
