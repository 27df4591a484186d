import java.util.function.Consumer;

/** The edges that promises 1 to 7 name: a test for each of their sentences. */
public final class EdgesOfProgramsTest {
    public static void main(String[] args) {
        load();
        add();
        removeLast();
        questions();
        Checks.finish();
    }

    private static void load() {
        Checks.test("1: Creates a program without statements.", EdgesOfProgramsTest::newObject);
        Checks.test("2: Replaces the program by the one in the buffer, which is emptied.",
                EdgesOfProgramsTest::loadReplaces);
        Checks.test("2: Undoable.", () -> {
            ClaimJudge judge = Checks.of("!x=3");
            Checks.load(judge, "x:4;?x=4@1");
            Checks.same("undo()", 1, judge.undo());
            Checks.same("the claim is back", 2, judge.verdict(0));
            Checks.same("undo()", 0, judge.undo());
            Checks.same("no statements are back", 0, judge.statements());
            Checks.same("but not the buffer", 0, judge.clearBuffer());
        });
        Checks.test("2: Returns the number of statements.", () -> {
            for (int size = 1; size <= 12; size++) {
                Checks.same("of " + size, size, Checks.load(Checks.of("x:0;x:0;x:0"), Checks.many(size, "!x=0")));
            }
        });
        Checks.test("2: Throws `IllegalArgumentException` if the buffer is not a complete program text",
                EdgesOfProgramsTest::loadOfNoText);
        Checks.test("2: or a jump has a number that is greater than the number of statements",
                EdgesOfProgramsTest::loadOfFarJumps);
        Checks.test("2: (the buffer stays)", () -> {
            ClaimJudge judge = Checks.of("x:4");
            Checks.type(judge, "?y=0@2;");
            Checks.refusesArgument("an unfinished text", judge::load);
            Checks.same("one character more", 8, judge.append('z'));
            Checks.refusesArgument("still unfinished", judge::load);
            Checks.type(judge, ":5");
            Checks.same("finished", 2, judge.load());
            Checks.same("the jump is taken", 1002, judge.run(0, 0, 2));
            Checks.same("or not", 1013, judge.run(0, 1, 0));
            Checks.type(judge, "?x=0@2");
            Checks.refusesArgument("a jump too far", judge::load);
            Checks.type(judge, ";x:2");
            Checks.same("with one statement more", 2, judge.load());
            Checks.same("refused calls save nothing", 3, judge.savedStates());
        });
    }

    private static void newObject() {
        ClaimJudge judge = new ClaimJudge();
        Checks.same("statements()", 0, judge.statements());
        Checks.refusesIndex("kind(0)", () -> judge.kind(0));
        Checks.refusesIndex("verdict(0)", () -> judge.verdict(0));
        Checks.refusesIndex("demand(1)", () -> judge.demand(1));
        Checks.refusesState("removeLast()", judge::removeLast);
        Checks.refusesState("undo()", judge::undo);
        Checks.refusesArgument("load()", judge::load);
        Checks.refusesArgument("add()", judge::add);
        Checks.same("savedStates()", 0, judge.savedStates());
        Checks.same("endless()", 0, judge.endless());
        Checks.same("proof()", 1, judge.proof());
        Checks.same("provedShare()", 1.0, judge.provedShare());
        Checks.same("firstError()", 0, judge.firstError());
        Checks.same("clearBuffer()", 0, judge.clearBuffer());
        Checks.same("steps()", 0, judge.steps(7, 7, 7));
        Checks.load(judge, "x:1");
        Checks.same("the next one has none", 0, new ClaimJudge().statements());
    }

    private static void loadReplaces() {
        ClaimJudge judge = Checks.of(Checks.many(12, "!x=1"));
        Checks.same("a run of the twelve", 0, judge.run(0, 0, 0));
        Checks.same("their proof", 2, judge.proof());
        Checks.same("twelve by one", 1, Checks.load(judge, "y:3"));
        Checks.same("the proof of the one", 1, judge.proof());
        Checks.same("the buffer", 0, judge.clearBuffer());
        Checks.same("nothing is left of the twelve", 1000 + 24, judge.run(0, 0, 0));
        Checks.refusesIndex("the second is gone", () -> judge.kind(1));
        Checks.same("one by twelve", 12, Checks.load(judge, Checks.many(12, "x:y")));
        Checks.same("the buffer", 0, judge.clearBuffer());
        Checks.same("twelve assignments", 12, judge.steps(0, 5, 0));
        judge.assume(0, 3, 4);
        Checks.load(judge, "!x=4");
        Checks.same("the assumption stays", 3 * 64, judge.example(0));
        assumptionStays("load()", loaded -> Checks.load(loaded, "!x=4"));
    }

    private static void assumptionStays(String call, Consumer<ClaimJudge> change) {
        ClaimJudge judge = Checks.of("x:x;y:y");
        for (int variable = 0; variable < 3; variable++) {
            judge.assume(variable, variable + 1, variable + 4);
        }
        change.accept(judge);
        for (int variable = 0; variable < 3; variable++) {
            Checks.same(call + ": the lower bound stays", variable + 1, judge.least(0, variable));
            Checks.same(call + ": the upper bound stays", variable + 4, judge.greatest(0, variable));
        }
    }

    private static void loadOfNoText() {
        String[] texts = {"", "x", "x:", "x:1-", "x:1;", ";x:1", "x:1;;x:1", "!x=", "?x=1@", "?x=1", "x:8", "x:1+9",
            "y:2;w:1", "?x=1@13", "?x=1@01", Checks.many(12, "x:1") + ";", Checks.many(13, "x:1"), "x:1x", "x:1;!"};
        for (String text : texts) {
            ClaimJudge judge = Checks.of("x:4");
            Checks.type(judge, text);
            Checks.refusesArgument(text, judge::load);
            Checks.same("the program stays", 1000 + 256, judge.run(0, 0, 0));
            Checks.same("the buffer stays", text.length(), judge.clearBuffer());
            Checks.same("nothing is saved", 1, judge.savedStates());
        }
    }

    private static void loadOfFarJumps() {
        for (int size = 1; size <= 11; size++) {
            ClaimJudge judge = Checks.of(Checks.many(12, "x:4"));
            String before = Checks.many(size - 1, "x:0") + (size == 1 ? "" : ";");
            Checks.type(judge, before + "?x=0@" + (size + 1));
            Checks.refusesArgument("the last of " + size + " goes to " + (size + 1), judge::load);
            judge.clearBuffer();
            Checks.same("it may go to " + size, size, Checks.load(judge, before + "?x=0@" + size));
        }
        Checks.same("the first of twelve may go to 12", 12, Checks.load(new ClaimJudge(),
                "?x=0@12;" + Checks.many(11, "x:0")));
        ClaimJudge judge = new ClaimJudge();
        Checks.type(judge, "?x=0@3;?x=0@4;?x=0@3");
        Checks.refusesArgument("one of three", judge::load);
    }

    private static void add() {
        Checks.test("3: Adds the statements in the buffer at the end of the program, and empties the buffer.", () -> {
            ClaimJudge judge = new ClaimJudge();
            Checks.same("to nothing", 1, Checks.add(judge, "y:7"));
            Checks.same("the buffer", 0, judge.clearBuffer());
            Checks.same("a run of the one", 1000 + 56, judge.run(0, 0, 0));
            Checks.same("its demand", 512, judge.demand(0));
            Checks.same("behind it", 3, Checks.add(judge, "!y=7;y:y+2"));
            Checks.same("the buffer", 0, judge.clearBuffer());
            Checks.same("in their order", 1000 + 8, judge.run(0, 0, 0));
            Checks.same("what comes to the end", 1, judge.greatest(3, 1));
            Checks.same("the first stays the first", 3, judge.steps(0, 0, 0));
            judge.assume(0, 6, 6);
            Checks.add(judge, "!x=6");
            Checks.same("the assumption stays", 1, judge.verdict(3));
            assumptionStays("add()", added -> Checks.add(added, "!x=4"));
        });
        Checks.test("3: Jumps keep their numbers, those of the program and those in the buffer, too (they tell statements"
                + " of the whole program).", EdgesOfProgramsTest::addKeepsNumbers);
        Checks.test("3: Undoable.", () -> {
            ClaimJudge judge = Checks.of("?x=0@1");
            Checks.add(judge, "!x#0;y:1");
            Checks.same("the jump to the end goes to what was added", 1, judge.run(0, 0, 0));
            Checks.same("undo()", 1, judge.undo());
            Checks.same("it is gone", 1, judge.statements());
            Checks.same("the jump goes to the end again", 1000, judge.run(0, 0, 0));
            Checks.same("the buffer is not back", 0, judge.clearBuffer());
        });
        Checks.test("3: Returns the number of statements of the program then.", () -> {
            for (int before = 1; before <= 11; before++) {
                Checks.same("one behind " + before, before + 1, Checks.add(Checks.of(Checks.many(before, "x:1")), "y:1"));
                Checks.same("up to twelve behind " + before, 12,
                        Checks.add(Checks.of(Checks.many(before, "x:1")), Checks.many(12 - before, "y:1")));
            }
            Checks.same("twelve to nothing", 12, Checks.add(new ClaimJudge(), Checks.many(12, "y:1")));
        });
        Checks.test("3: Throws `IllegalArgumentException` if the buffer is not a complete program text", () -> {
            String[] texts = {"", "x", "x:", "x:1-", "x:1;", ";x:1", ";", "!x=", "?x=1@", "x:8", "?x=1@13", "x:1;!"};
            for (String text : texts) {
                refusedAdd(1, text);
            }
        });
        Checks.test("3: or the program would have more than 12 statements", () -> {
            for (int before = 1; before <= 12; before++) {
                refusedAdd(before, Checks.many(13 - before, "y:1"));
            }
            refusedAdd(12, Checks.many(12, "y:1"));
        });
        Checks.test("3: or a jump in the buffer has a number that is greater than the number of statements then",
                EdgesOfProgramsTest::addOfFarJumps);
        Checks.test("3: (the buffer stays)", () -> {
            ClaimJudge judge = Checks.of(Checks.many(11, "x:1"));
            Checks.type(judge, "!y=1;?z=2@2");
            Checks.refusesArgument("thirteen", judge::add);
            judge.removeLast();
            Checks.same("the same again, behind ten", 12, judge.add());
            Checks.same("the claim", 1, judge.kind(10));
            Checks.same("the jump", 2, judge.target(11));
            Checks.same("the refused call has saved nothing", 3, judge.savedStates());
        });
    }

    private static void addKeepsNumbers() {
        ClaimJudge judge = Checks.of("?x=1@2;?x=2@0");
        Checks.add(judge, "?y=1@0;?y=2@1;?y=3@5");
        int[] due = {2, 0, 0, 1, 5};
        for (int n = 0; n < due.length; n++) {
            Checks.same("the number of " + n, due[n], judge.target(n));
        }
        Checks.same("from the buffer to the first statement", ClaimJudge.NONE, judge.run(0, 1, 0));
        Checks.same("from the buffer to the end", 1000 + 24, judge.run(0, 3, 0));
        Checks.same("what was the end is no end now", 4, judge.steps(1, 4, 0));
        Checks.same("the end moved once more", 6, Checks.add(judge, "!z=0"));
        Checks.same("5 is the added claim now", 5, judge.run(0, 3, 1));
    }

    private static void refusedAdd(int before, String text) {
        ClaimJudge judge = Checks.of(Checks.many(before, "x:4"));
        Checks.type(judge, text);
        Checks.refusesArgument(text + " behind " + before, judge::add);
        Checks.same("the program stays", before, judge.statements());
        Checks.same("the buffer stays", text.length(), judge.clearBuffer());
        Checks.same("nothing is saved", 1, judge.savedStates());
    }

    private static void addOfFarJumps() {
        for (int before = 1; before <= 10; before++) {
            refusedAdd(before, "?x=0@" + (before + 2));
            refusedAdd(before, "?x=0@" + (before + 3) + ";x:1");
            ClaimJudge judge = Checks.of(Checks.many(before, "x:4"));
            Checks.same("to the new end", before + 1, Checks.add(judge, "?x=0@" + (before + 1)));
            Checks.same("from the first of two", before + 2,
                    Checks.add(Checks.of(Checks.many(before, "x:4")), "?x=0@" + (before + 2) + ";x:1"));
        }
        Checks.same("to 12", 12, Checks.add(Checks.of(Checks.many(11, "x:4")), "?x=0@12"));
        ClaimJudge empty = new ClaimJudge();
        Checks.type(empty, "?x=0@2");
        Checks.refusesArgument("behind nothing", empty::add);
    }

    private static void removeLast() {
        Checks.test("4: Removes the last statement.", () -> {
            ClaimJudge judge = Checks.of("x:1;!x=2;?y=0@1");
            judge.removeLast();
            Checks.same("the claim is the last", 1, judge.run(0, 0, 0));
            judge.removeLast();
            Checks.same("the assignment is the last", 1064, judge.run(0, 0, 0));
            judge.removeLast();
            Checks.same("there is none", 1000, judge.run(0, 0, 0));
            Checks.same("the end is statement 0", 512, judge.demand(0));
            assumptionStays("removeLast()", ClaimJudge::removeLast);
        });
        Checks.test("4: A jump to the number of statements before the call goes to the new number of statements then.",
                EdgesOfProgramsTest::removeLastMovesJumps);
        Checks.test("4: Undoable.", () -> {
            ClaimJudge judge = Checks.of("?x=0@3;?x=1@2;!x=5");
            judge.removeLast();
            judge.removeLast();
            Checks.same("undo()", 2, judge.undo());
            Checks.same("the jump to the end of two", 2, judge.target(0));
            Checks.same("undo()", 1, judge.undo());
            Checks.same("the jump to the end of three", 3, judge.target(0));
            Checks.same("the jump to the last", 2, judge.target(1));
            Checks.same("the claim is back", 2, judge.verdict(2));
        });
        Checks.test("4: Returns the number of statements that are left.", () -> {
            ClaimJudge judge = Checks.of(Checks.many(12, "x:1"));
            for (int left = 11; left >= 0; left--) {
                Checks.same("left", left, judge.removeLast());
                Checks.same("left", left, judge.statements());
            }
        });
        Checks.test("4: Throws `IllegalStateException` if there is none", () -> {
            ClaimJudge judge = new ClaimJudge();
            Checks.refusesState("a new object", judge::removeLast);
            Checks.type(judge, "x:1");
            Checks.refusesState("statements in the buffer do not count", judge::removeLast);
            judge.load();
            judge.removeLast();
            Checks.refusesState("all are removed", judge::removeLast);
            Checks.same("the refused call saves nothing", 2, judge.savedStates());
            judge.undo();
            Checks.same("one is back", 0, judge.removeLast());
        });
    }

    private static void removeLastMovesJumps() {
        for (int size = 2; size <= 12; size++) {
            for (int number = 0; number <= size; number++) {
                ClaimJudge judge = Checks.of("?x=0@" + number + ";" + Checks.many(size - 1, "x:1"));
                judge.removeLast();
                int due = number == size ? size - 1 : number;
                Checks.same("a jump to " + number + " of " + size, due, judge.target(0));
            }
        }
        ClaimJudge judge = Checks.of("?x=0@4;?x=1@3;?x=2@4;?x=3@4");
        judge.removeLast();
        Checks.same("the first", 3, judge.target(0));
        Checks.same("to what was the last", 3, judge.target(1));
        Checks.same("the third", 3, judge.target(2));
        judge.removeLast();
        Checks.same("all go with the end", 2, judge.target(0));
        Checks.same("all go with the end", 2, judge.target(1));
        Checks.add(judge, "!x=x;y:1");
        Checks.same("and then they stay", 2, judge.target(0));
        ClaimJudge single = Checks.of("?x=0@1");
        Checks.same("a single jump to the end", 0, single.removeLast());
    }

    private static void questions() {
        Checks.test("5: Returns the number of statements.", () -> {
            ClaimJudge judge = new ClaimJudge();
            Checks.same("at first", 0, judge.statements());
            for (int size = 1; size <= 12; size++) {
                Checks.add(judge, "x:1");
                Checks.same("statements()", size, judge.statements());
            }
            Checks.type(judge, "x:1");
            Checks.refusesArgument("a thirteenth", judge::add);
            Checks.same("still twelve", 12, judge.statements());
        });
        Checks.test("6: Returns 0 an assignment, 1 a claim, 2 a jump.", () -> {
            ClaimJudge judge = Checks.of("x:1;!x=1;?x=1@0;y:x-7;!z#y;?y>x@6");
            for (int n = 0; n < 6; n++) {
                Checks.same("kind(" + n + ")", n % 3, judge.kind(n));
            }
        });
        Checks.test("6: Throws `IndexOutOfBoundsException` if there is no such statement", () -> {
            Checks.refusesIndex("of none", () -> new ClaimJudge().kind(0));
            for (int size = 1; size <= 12; size++) {
                ClaimJudge judge = Checks.of(Checks.many(size, "x:1"));
                Checks.takesOnlyIndicesTo(size - 1, "kind() of " + size, judge::kind);
            }
        });
        Checks.test("7: Returns the number of the statement to which it goes; NONE if it is not a jump.", () -> {
            ClaimJudge judge = Checks.of("x:1;!x=1");
            Checks.same("an assignment", ClaimJudge.NONE, judge.target(0));
            Checks.same("a claim", ClaimJudge.NONE, judge.target(1));
            for (int number = 0; number <= 12; number++) {
                Checks.load(judge, "?x=0@" + number + ";" + Checks.many(11, "x:1"));
                Checks.same("a jump", number, judge.target(0));
                Checks.same("no jump behind it", ClaimJudge.NONE, judge.target(1));
                if (number % 4 == 3) {
                    judge = new ClaimJudge();
                }
            }
        });
        Checks.test("7: Throws `IndexOutOfBoundsException` if there is no such statement", () -> {
            Checks.refusesIndex("of none", () -> new ClaimJudge().target(0));
            for (int size = 1; size <= 12; size++) {
                ClaimJudge judge = Checks.of(Checks.many(size, "x:1"));
                Checks.takesOnlyIndicesTo(size - 1, "target() of " + size, judge::target);
            }
        });
    }
}
