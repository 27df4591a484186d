/** For each promise of the document: ordinary inputs, the edges that it names, and wrong inputs. */
public final class PromisesTest {
    private static final Class<IllegalArgumentException> ARGUMENT = IllegalArgumentException.class;
    private static final Class<IllegalStateException> STATE = IllegalStateException.class;
    private static final Class<IndexOutOfBoundsException> INDEX = IndexOutOfBoundsException.class;

    /** Twelve statements in 47 characters. */
    private static final String TWELVE = "x:1;x:1;x:1;x:1;x:1;x:1;x:1;x:1;x:1;x:1;x:1;x:1";

    /** Counts x up to 5, then claims that it is 5: it fails from 6 and 7. */
    private static final String LOOP = "?x>4@3;x:x+1;?x=x@0;!x=5";

    /** Fails at 0 for x = 7, at 3 for y = 0, is endless for z = 7, and succeeds otherwise. */
    private static final String ALL_ENDS = "!x<7;?z=7@1;?z=6@4;!y>0;x:y";

    public static void main(String[] args) {
        newObject();
        load();
        loadRefuses();
        add();
        removeLast();
        statements();
        kind();
        target();
        runAssignments();
        runTests();
        run();
        steps();
        demand();
        demands();
        assume();
        verdict();
        example();
        endless();
        proof();
        provedShare();
        least();
        greatest();
        widest();
        append();
        clearBuffer();
        firstError();
        undo();
        savedStates();
        digest();
        answersFollowChanges();
        severalExceptions();
        refusedCallsChangeNothing();
        Checks.finish();
    }

    private static void newObject() {
        ClaimJudge judge = new ClaimJudge();
        Checks.same("1: statements()", 0, judge.statements());
        Checks.same("1: savedStates()", 0, judge.savedStates());
        Checks.same("1: clearBuffer()", 0, judge.clearBuffer());
        Checks.same("1: run(1, 2, 3)", 1083, judge.run(1, 2, 3));
        Checks.same("1: steps(1, 2, 3)", 0, judge.steps(1, 2, 3));
        Checks.same("1: demand(0)", 512, judge.demand(0));
        Checks.same("1: proof()", 1, judge.proof());
        for (int variable = 0; variable < 3; variable++) {
            Checks.same("1: least", 0, judge.least(0, variable));
            Checks.same("1: greatest", 7, judge.greatest(0, variable));
            Checks.same("1: widest", 7, judge.widest(variable));
        }
        Checks.load(new ClaimJudge(), "x:1");
        Checks.same("1: objects share nothing", 0, judge.statements());
    }

    private static void load() {
        ClaimJudge judge = new ClaimJudge();
        Checks.type(judge, "x:1;!x=1");
        Checks.same("2: load()", 2, judge.load());
        Checks.same("2: the buffer is emptied", 0, judge.clearBuffer());
        Checks.same("2: load() replaces", 1, Checks.load(judge, "y:3"));
        Checks.same("2: the program is replaced", 1024, judge.run(0, 1, 0));
        Checks.same("2: twelve statements", 12, Checks.load(judge, TWELVE));
        Checks.same("2: a jump to the end", 1, Checks.load(judge, "?x=1@1"));
        Checks.same("2: a jump to 12", 12, Checks.load(judge, TWELVE.substring(4) + ";?x=1@12"));
        judge.assume(0, 2, 3);
        Checks.load(judge, "x:x");
        Checks.same("2: the assumption stays", 2, judge.least(0, 0));
        Checks.same("2: load() is undoable", 5, judge.undo());
        Checks.same("2: undone", 12, judge.statements());
        Checks.same("2: undo leaves the buffer", 0, judge.clearBuffer());
    }

    private static void loadRefuses() {
        ClaimJudge judge = Checks.of("x:1;y:2");
        String[] wrong = {
            "", "x", "x:", "x:8", "x:1+", "x:1+x", "x:1+8", "x:1+1+1", "x=1", "w:1", "x:w", ":", "x:-1", "1:x", "x:1;",
            ";x:1", "x:1;;y:1", "x:11", "!", "!x", "!x=", "!x=8", "!x:1", "!1=x", "!x=1;", "!x<=1", "!x=1+1", "?", "?x",
            "?x=1", "?x=1@", "?x=1@2", "?x=1@00", "?x=1@01", "?x=1@13", "?x=1@-1", "?x=1@1;", "?x=1@x", "x=1@0", "X:1",
            "!x=1@0", "?x=1;0", "y:1;?x=1@3", "?x>y@12", TWELVE + ";", TWELVE + ";x:1", "!x~1", "x:1!x=1",
        };
        for (String text : wrong) {
            judge.clearBuffer();
            Checks.type(judge, text);
            Checks.refuses("2: load() of " + text, ARGUMENT, judge::load);
            Checks.same("2: the buffer stays", text.length(), judge.clearBuffer());
        }
        Checks.same("2: the program stays", 2, judge.statements());
        Checks.same("2: nothing is saved", 1, judge.savedStates());
    }

    private static void add() {
        ClaimJudge judge = new ClaimJudge();
        Checks.same("3: add() to nothing", 1, Checks.add(judge, "?x=1@1"));
        Checks.same("3: the buffer is emptied", 0, judge.clearBuffer());
        Checks.same("3: add()", 3, Checks.add(judge, "y:7;?x=0@0"));
        Checks.same("3: the program's jumps keep their numbers", 1, judge.target(0));
        Checks.same("3: the buffer's jumps keep theirs", 0, judge.target(2));
        Checks.same("3: it runs on into what was added", 1000 + 64 + 56, judge.run(1, 0, 0));
        Checks.same("3: jump back to the program", -1, judge.run(0, 0, 0));
        Checks.same("3: jump to the new end", 4, Checks.add(judge, "?z=1@4"));
        Checks.type(judge, "?z=1@6");
        Checks.refuses("3: jump behind the new end", ARGUMENT, judge::add);
        Checks.same("3: the buffer stays", 6, judge.clearBuffer());
        Checks.same("3: savedStates()", 3, judge.savedStates());
        Checks.same("3: add() is undoable", 2, judge.undo());
        Checks.same("3: undone", 3, judge.statements());

        judge = Checks.of(TWELVE.substring(4));
        Checks.type(judge, "x:1;x:2");
        Checks.refuses("3: thirteen statements", ARGUMENT, judge::add);
        Checks.same("3: the buffer stays", 7, judge.clearBuffer());
        Checks.same("3: the twelfth", 12, Checks.add(judge, "?x=1@12"));
        Checks.type(judge, "x:3");
        Checks.refuses("3: a full program", ARGUMENT, judge::add);
        Checks.type(judge, ";");
        Checks.refuses("3: not complete", ARGUMENT, judge::add);
        judge.clearBuffer();
        Checks.refuses("3: an empty buffer", ARGUMENT, judge::add);
        Checks.same("3: the program stays", 12, judge.statements());
    }

    private static void removeLast() {
        ClaimJudge judge = Checks.of("?x=0@3;?y=0@2;?z=0@1");
        Checks.same("4: removeLast()", 2, judge.removeLast());
        Checks.same("4: a jump to the end goes to the new end", 2, judge.target(0));
        Checks.same("4: a jump to the last one goes to the end now", 2, judge.target(1));
        Checks.same("4: removeLast()", 1, judge.removeLast());
        Checks.same("4: once more", 1, judge.target(0));
        Checks.same("4: removeLast()", 0, judge.removeLast());
        Checks.refuses("4: removeLast() of nothing", STATE, judge::removeLast);
        Checks.same("4: savedStates()", 4, judge.savedStates());
        Checks.same("4: removeLast() is undoable", 3, judge.undo());
        Checks.same("4: undone", 1, judge.statements());
        judge.undo();
        Checks.same("4: undone twice", 2, judge.target(0));
        judge.undo();
        Checks.same("4: undone thrice", 3, judge.target(0));
        Checks.same("4: the removed jump is back", 1, judge.target(2));

        judge = Checks.of("?x=0@0;y:1;z:1");
        judge.removeLast();
        Checks.same("4: other jumps stay", 0, judge.target(0));
        Checks.same("4: the others still run", 1064 + 8, judge.run(1, 0, 0));
    }

    private static void statements() {
        ClaimJudge judge = Checks.of("x:1;y:2;z:3");
        Checks.same("5: statements()", 3, judge.statements());
        Checks.type(judge, "x:1");
        Checks.same("5: the buffer does not count", 3, judge.statements());
        judge.add();
        Checks.same("5: after add()", 4, judge.statements());
        judge.removeLast();
        Checks.same("5: after removeLast()", 3, judge.statements());
        judge.undo();
        Checks.same("5: after undo()", 4, judge.statements());
    }

    private static void kind() {
        ClaimJudge judge = Checks.of("x:y-1;!x<y;?z#3@0");
        Checks.same("6: an assignment", 0, judge.kind(0));
        Checks.same("6: a claim", 1, judge.kind(1));
        Checks.same("6: a jump", 2, judge.kind(2));
        Checks.refuses("6: kind(-1)", INDEX, () -> judge.kind(-1));
        Checks.refuses("6: kind(3)", INDEX, () -> judge.kind(3));
        Checks.refuses("6: the greatest int", INDEX, () -> judge.kind(Integer.MAX_VALUE));
        judge.removeLast();
        Checks.refuses("6: a removed statement", INDEX, () -> judge.kind(2));
    }

    private static void target() {
        ClaimJudge judge = Checks.of("x:y-1;!x<y;?z#3@0;?z#3@4");
        Checks.same("7: of an assignment", ClaimJudge.NONE, judge.target(0));
        Checks.same("7: of a claim", ClaimJudge.NONE, judge.target(1));
        Checks.same("7: of a jump", 0, judge.target(2));
        Checks.same("7: of a jump to the end", 4, judge.target(3));
        Checks.refuses("7: target(-1)", INDEX, () -> judge.target(-1));
        Checks.refuses("7: target(4)", INDEX, () -> judge.target(4));
        Checks.refuses("7: the least int", INDEX, () -> judge.target(Integer.MIN_VALUE));
        for (int number = 10; number <= 12; number++) {
            Checks.load(judge, "x:1;x:1;x:1;x:1;x:1;x:1;x:1;x:1;x:1;x:1;x:1;?x=0@" + number);
            Checks.same("7: two digits", number, judge.target(11));
        }
    }

    private static void runAssignments() {
        String[] texts = {"x:5", "y:x", "z:z", "x:x+1", "x:y+7", "z:x-7", "y:0-1", "y:3+7", "z:7+0", "x:3-0", "y:y-3"};
        int[] ends = {1000 + 320 + 24 + 6, 1000 + 128 + 16 + 6, 1000 + 128 + 24 + 6, 1000 + 192 + 24 + 6,
            1000 + 128 + 24 + 6, 1000 + 128 + 24 + 3, 1000 + 128 + 56 + 6, 1000 + 128 + 16 + 6,
            1000 + 128 + 24 + 7, 1000 + 192 + 24 + 6, 1000 + 128 + 0 + 6};
        for (int n = 0; n < texts.length; n++) {
            Checks.same("8: " + texts[n], ends[n], Checks.of(texts[n]).run(2, 3, 6));
        }
    }

    /** Those that hold and those that do not take turns. */
    private static void runTests() {
        String[] texts = {"x=2", "x=3", "x<3", "x<2", "x>1", "x>2", "x#3", "x#2", "x=x", "x#x", "x<y", "y<x",
            "y>x", "x>y", "z=6", "y=x", "y#x", "z<y", "z<7", "z>7"};
        for (int n = 0; n < texts.length; n++) {
            boolean holds = n % 2 == 0;
            int claimed = Checks.of("z:z;!" + texts[n]).run(2, 3, 6);
            Checks.same("8: !" + texts[n], holds ? 1000 + 158 : 1, claimed);
            int jumped = Checks.of("?" + texts[n] + "@2;y:0").run(2, 3, 6);
            Checks.same("8: ?" + texts[n], holds ? 1000 + 158 : 1000 + 134, jumped);
        }
    }

    private static void run() {
        ClaimJudge judge = Checks.of(LOOP);
        Checks.same("8: success", 1000 + 320 + 8 + 2, judge.run(0, 1, 2));
        Checks.same("8: failure", 3, judge.run(6, 1, 2));
        Checks.same("8: failure at 0", 0, Checks.of("!x=1").run(0, 0, 0));
        Checks.same("8: endless", ClaimJudge.NONE, Checks.of("?x=x@0").run(1, 2, 3));
        Checks.same("8: endless behind a change", ClaimJudge.NONE, Checks.of("x:x+1;?y=0@0").run(0, 0, 0));
        Checks.same("8: not endless", 1000 + 64, Checks.of("x:x+1;?x=0@0").run(0, 0, 0));
        Checks.same("8: 7, 7, 7", 1511, Checks.of("x:x").run(7, 7, 7));
        Checks.refuses("8: x = 8", ARGUMENT, () -> judge.run(8, 0, 0));
        Checks.refuses("8: x = -1", ARGUMENT, () -> judge.run(-1, 0, 0));
        Checks.refuses("8: y = 8", ARGUMENT, () -> judge.run(0, 8, 0));
        Checks.refuses("8: y = -1", ARGUMENT, () -> judge.run(0, -1, 0));
        Checks.refuses("8: z = 8", ARGUMENT, () -> judge.run(0, 0, 8));
        Checks.refuses("8: z = -1", ARGUMENT, () -> judge.run(0, 0, -1));
        judge.assume(0, 3, 3);
        Checks.same("8: the assumption does not matter", 3, judge.run(7, 0, 0));
    }

    private static void steps() {
        ClaimJudge judge = Checks.of(LOOP);
        Checks.same("9: of a loop", 17, judge.steps(0, 1, 2));
        Checks.same("9: a jump and a claim", 2, judge.steps(5, 1, 2));
        Checks.same("9: the failing claim counts", 2, judge.steps(6, 1, 2));
        Checks.same("9: failure at 0", 1, Checks.of("!x=1;x:1").steps(0, 0, 0));
        Checks.same("9: over a jump", 1, Checks.of("?x=1@3;x:1;x:2").steps(1, 0, 0));
        Checks.same("9: endless", ClaimJudge.NONE, Checks.of("?x=x@0").steps(1, 2, 3));
        Checks.same("9: endless after a while", ClaimJudge.NONE, Checks.of("x:1;?x=1@1").steps(1, 2, 3));
        ClaimJudge counter = Checks.of("x:x+1;?x#0@0;y:y+1;?y#0@0;z:z+1;?z#0@0");
        Checks.same("9: a long run", 2 * 512 + 2 * 64 + 2 * 8, counter.steps(0, 0, 0));
        Checks.refuses("9: x = 8", ARGUMENT, () -> judge.steps(8, 0, 0));
        Checks.refuses("9: y = -1", ARGUMENT, () -> judge.steps(0, -1, 0));
        Checks.refuses("9: z = 8", ARGUMENT, () -> judge.steps(0, 0, 8));
    }

    private static void demand() {
        ClaimJudge judge = Checks.of(LOOP);
        Checks.same("10: demand(0)", 384, judge.demand(0));
        Checks.same("10: demand(1)", 384, judge.demand(1));
        Checks.same("10: demand(3)", 64, judge.demand(3));
        Checks.same("10: behind the last one", 512, judge.demand(4));
        judge.assume(1, 0, 0);
        Checks.same("10: the assumption does not matter", 384, judge.demand(0));
        Checks.same("10: endless runs are not in it", 0, Checks.of("?x=x@0").demand(0));
        Checks.same("10: partly endless", 448, Checks.of("?x=1@0").demand(0));
        Checks.refuses("10: demand(-1)", INDEX, () -> judge.demand(-1));
        Checks.refuses("10: demand(5)", INDEX, () -> judge.demand(5));
        judge.removeLast();
        Checks.same("10: after a change", 512, judge.demand(0));
    }

    private static void demands() {
        ClaimJudge judge = Checks.of(LOOP);
        Checks.same("11: at 0", true, judge.demands(0, 5, 1, 1));
        Checks.same("11: at 0, failing", false, judge.demands(0, 6, 1, 1));
        Checks.same("11: at 1", true, judge.demands(1, 7, 1, 1));
        Checks.same("11: at 3", false, judge.demands(3, 4, 1, 1));
        Checks.same("11: at 3", true, judge.demands(3, 5, 7, 0));
        Checks.same("11: behind the last one", true, judge.demands(4, 7, 7, 7));
        Checks.same("11: endless", false, Checks.of("?x=1@0").demands(0, 1, 0, 0));
        Checks.refuses("11: statement -1", INDEX, () -> judge.demands(-1, 0, 0, 0));
        Checks.refuses("11: statement 5", INDEX, () -> judge.demands(5, 0, 0, 0));
        Checks.refuses("11: x = 8", ARGUMENT, () -> judge.demands(4, 8, 0, 0));
        Checks.refuses("11: y = 8", ARGUMENT, () -> judge.demands(4, 0, 8, 0));
        Checks.refuses("11: z = -1", ARGUMENT, () -> judge.demands(4, 0, 0, -1));
    }

    private static void assume() {
        ClaimJudge judge = new ClaimJudge();
        Checks.same("12: assume(0, 2, 4)", 192, judge.assume(0, 2, 4));
        Checks.same("12: assume(2, 7, 7)", 24, judge.assume(2, 7, 7));
        Checks.same("12: assume(1, 0, 0)", 3, judge.assume(1, 0, 0));
        Checks.same("12: assume(0, 5, 5)", 1, judge.assume(0, 5, 5));
        Checks.same("12: assume(0, 0, 7)", 8, judge.assume(0, 0, 7));
        Checks.same("12: assume() is undoable", 4, judge.undo());
        Checks.same("12: undone", 5, judge.greatest(0, 0));
        Checks.same("12: even if nothing changes", 1, judge.assume(0, 5, 5));
        Checks.same("12: it is saved", 5, judge.savedStates());
        Checks.refuses("12: variable 3", INDEX, () -> judge.assume(3, 0, 7));
        Checks.refuses("12: variable -1", INDEX, () -> judge.assume(-1, 0, 7));
        Checks.refuses("12: low -1", ARGUMENT, () -> judge.assume(0, -1, 7));
        Checks.refuses("12: low 8", ARGUMENT, () -> judge.assume(0, 8, 8));
        Checks.refuses("12: high 8", ARGUMENT, () -> judge.assume(0, 0, 8));
        Checks.refuses("12: high below low", ARGUMENT, () -> judge.assume(0, 4, 3));
        Checks.refuses("12: high -1", ARGUMENT, () -> judge.assume(0, 0, -1));
        Checks.same("12: nothing is saved", 5, judge.savedStates());
    }

    private static void verdict() {
        ClaimJudge judge = Checks.of("?x>3@3;!x<4;?x=x@4;!y<6;z:x");
        Checks.same("13: not a claim", ClaimJudge.NONE, judge.verdict(0));
        Checks.same("13: not a claim", ClaimJudge.NONE, judge.verdict(4));
        Checks.same("13: proved", 1, judge.verdict(1));
        Checks.same("13: refuted", 2, judge.verdict(3));
        judge.assume(1, 0, 5);
        Checks.same("13: proved with bounds", 1, judge.verdict(3));
        judge.assume(0, 0, 3);
        Checks.same("13: not reached", 0, judge.verdict(3));
        judge.assume(0, 4, 4);
        Checks.same("13: not reached", 0, judge.verdict(1));
        judge.undo();
        judge.undo();
        judge.undo();
        Checks.same("13: refuted again", 2, judge.verdict(3));
        Checks.same("13: refuted hides the later one", 0, Checks.of("!x#x;!x=x").verdict(1));
        Checks.same("13: reached by an endless run", 1, Checks.of("!x=x;?x=x@0").verdict(0));
        Checks.same("13: refuted by a single run", 2, Checks.of("z:z;?x#3@4;?y#7@4;!z#5").verdict(3));
        Checks.refuses("13: verdict(-1)", INDEX, () -> judge.verdict(-1));
        Checks.refuses("13: verdict(5)", INDEX, () -> judge.verdict(5));
    }

    private static void example() {
        ClaimJudge judge = Checks.of("?x>3@2;x:x+1;!y<6;!z#7");
        Checks.same("14: the least triple", 48, judge.example(2));
        Checks.same("14: of a later claim", 7, judge.example(3));
        Checks.same("14: not a claim", ClaimJudge.NONE, judge.example(0));
        Checks.same("14: not a claim", ClaimJudge.NONE, judge.example(1));
        judge.assume(0, 2, 5);
        judge.assume(1, 3, 7);
        judge.assume(2, 1, 7);
        Checks.same("14: within the bounds", 128 + 48 + 1, judge.example(2));
        Checks.same("14: within the bounds", 128 + 24 + 7, judge.example(3));
        judge.assume(2, 1, 6);
        Checks.same("14: none", ClaimJudge.NONE, judge.example(3));
        Checks.same("14: the values at the beginning", 0, Checks.of("x:7;!x=0").example(1));
        Checks.same("14: of a claim that is not reached", ClaimJudge.NONE,
                Checks.of("!x#x;!y=7").example(1));
        Checks.refuses("14: example(-1)", INDEX, () -> judge.example(-1));
        Checks.refuses("14: example(4)", INDEX, () -> judge.example(4));
    }

    private static void endless() {
        ClaimJudge judge = Checks.of(ALL_ENDS);
        Checks.same("15: endless()", 56, judge.endless());
        judge.assume(0, 6, 7);
        Checks.same("15: with bounds", 8, judge.endless());
        judge.assume(2, 0, 6);
        Checks.same("15: none", 0, judge.endless());
        judge.undo();
        Checks.same("15: undone", 8, judge.endless());
        Checks.same("15: all", 512, Checks.of("x:x+1;?y=y@0").endless());
        Checks.same("15: a loop that ends", 0, Checks.of(LOOP).endless());
    }

    private static void proof() {
        ClaimJudge judge = Checks.of(ALL_ENDS);
        Checks.same("16: refuted", 2, judge.proof());
        judge.assume(0, 0, 6);
        Checks.same("16: refuted", 2, judge.proof());
        judge.assume(1, 1, 7);
        Checks.same("16: endless", 0, judge.proof());
        judge.assume(2, 0, 6);
        Checks.same("16: proved", 1, judge.proof());
        judge.assume(0, 7, 7);
        Checks.same("16: refuted at 0", 2, judge.proof());
        Checks.same("16: no claim", 1, Checks.of("x:1").proof());
        Checks.same("16: refuted by a single run", 2, Checks.of("?x#3@3;?y#7@3;!z#5").proof());
        Checks.same("16: refuted goes before endless", 2, Checks.of("!x=0;?x=0@1").proof());
    }

    private static void provedShare() {
        ClaimJudge judge = Checks.of(ALL_ENDS);
        Checks.same("17: provedShare()", (7 * 6 * 7 + 7 * 8) / 512.0, judge.provedShare());
        judge.assume(0, 5, 7);
        judge.assume(1, 0, 2);
        judge.assume(2, 5, 5);
        Checks.same("17: with bounds", 4.0 / 9.0, judge.provedShare());
        judge.assume(0, 7, 7);
        Checks.same("17: nothing", 0.0, judge.provedShare());
        judge.assume(0, 6, 6);
        judge.assume(1, 2, 2);
        Checks.same("17: all", 1.0, judge.provedShare());
        judge.assume(1, 0, 2);
        Checks.same("17: two thirds", 2.0 / 3.0, judge.provedShare());
    }

    private static void least() {
        ClaimJudge judge = Checks.of("?x>2@2;x:x+3;?y=0@4;z:y;z:z");
        judge.assume(0, 1, 4);
        judge.assume(1, 1, 5);
        judge.assume(2, 3, 6);
        Checks.same("18: x at 0", 1, judge.least(0, 0));
        Checks.same("18: y at 0", 1, judge.least(0, 1));
        Checks.same("18: z at 0", 3, judge.least(0, 2));
        Checks.same("18: before the assignment", 1, judge.least(1, 0));
        Checks.same("18: behind it", 3, judge.least(2, 0));
        Checks.same("18: at the end", 1, judge.least(5, 2));
        judge.assume(0, 3, 4);
        Checks.same("18: not reached", ClaimJudge.NONE, judge.least(1, 0));
        Checks.same("18: not reached", ClaimJudge.NONE, judge.least(1, 2));
        Checks.same("18: the end is not reached by a failing run", ClaimJudge.NONE, Checks.of("!x#x").least(1, 1));
        Checks.same("18: every visit counts", 0, Checks.of("x:x+1;?x#0@0").least(1, 0));
        Checks.same("18: at a claim that fails", 4, Checks.of("x:4;!x=0").least(1, 0));
        Checks.refuses("18: statement -1", INDEX, () -> judge.least(-1, 0));
        Checks.refuses("18: statement 6", INDEX, () -> judge.least(6, 0));
        Checks.refuses("18: variable -1", INDEX, () -> judge.least(0, -1));
        Checks.refuses("18: variable 3", INDEX, () -> judge.least(0, 3));
    }

    private static void greatest() {
        ClaimJudge judge = Checks.of("?x>2@2;x:x+3;?y=0@4;z:y;z:z");
        judge.assume(0, 1, 4);
        judge.assume(1, 1, 5);
        judge.assume(2, 3, 6);
        Checks.same("19: x at 0", 4, judge.greatest(0, 0));
        Checks.same("19: y at 0", 5, judge.greatest(0, 1));
        Checks.same("19: z at 0", 6, judge.greatest(0, 2));
        Checks.same("19: before the assignment", 2, judge.greatest(1, 0));
        Checks.same("19: behind it", 5, judge.greatest(2, 0));
        Checks.same("19: at the end", 5, judge.greatest(5, 2));
        judge.assume(0, 3, 4);
        Checks.same("19: not reached", ClaimJudge.NONE, judge.greatest(1, 0));
        Checks.same("19: not reached", ClaimJudge.NONE, judge.greatest(1, 2));
        Checks.same("19: the end is not reached by an endless run", ClaimJudge.NONE,
                Checks.of("?x=x@0").greatest(1, 1));
        ClaimJudge loop = Checks.of("x:x+1;?x#7@0");
        loop.assume(0, 0, 0);
        Checks.same("19: every visit counts", 6, loop.greatest(0, 0));
        Checks.same("19: every visit counts", 7, loop.greatest(1, 0));
        Checks.same("19: at a claim that fails", 4, Checks.of("x:4;!x=0").greatest(1, 0));
        Checks.refuses("19: statement -1", INDEX, () -> judge.greatest(-1, 0));
        Checks.refuses("19: statement 6", INDEX, () -> judge.greatest(6, 0));
        Checks.refuses("19: variable -1", INDEX, () -> judge.greatest(0, -1));
        Checks.refuses("19: variable 3", INDEX, () -> judge.greatest(0, 3));
    }

    private static void widest() {
        ClaimJudge judge = Checks.of(LOOP);
        Checks.same("20: x", 5, judge.widest(0));
        Checks.same("20: y cannot help", ClaimJudge.NONE, judge.widest(1));
        judge.assume(0, 7, 7);
        Checks.same("20: its own bounds do not matter", 5, judge.widest(0));
        judge.assume(0, 0, 5);
        Checks.same("20: the others' bounds do", 7, judge.widest(1));
        Checks.same("20: the later is longer", 47, Checks.of("!x#3").widest(0));
        Checks.same("20: the earlier is longer", 3, Checks.of("!x#4").widest(0));
        Checks.same("20: as long, the least lower bound", 2, Checks.of("!x#3;!x#7").widest(0));
        Checks.same("20: a single value", 55, Checks.of("!z=5").widest(2));
        Checks.same("20: 7 alone", 77, Checks.of("!z>6").widest(2));
        Checks.same("20: endless runs are not proved", 17, Checks.of("?y=0@0").widest(1));
        Checks.same("20: two variables", ClaimJudge.NONE, Checks.of("!x<y").widest(0));
        ClaimJudge two = Checks.of("!x<y");
        two.assume(1, 3, 5);
        Checks.same("20: two variables with bounds", 2, two.widest(0));
        Checks.same("20: it changes nothing", 2, two.savedStates());
        Checks.same("20: it changes nothing", 0, two.least(0, 0));
        Checks.refuses("20: widest(-1)", INDEX, () -> judge.widest(-1));
        Checks.refuses("20: widest(3)", INDEX, () -> judge.widest(3));
    }

    private static void append() {
        ClaimJudge judge = new ClaimJudge();
        Checks.same("21: append(33)", 1, judge.append(33));
        Checks.same("21: append(126)", 2, judge.append(126));
        Checks.refuses("21: append(32)", ARGUMENT, () -> judge.append(32));
        Checks.refuses("21: append(127)", ARGUMENT, () -> judge.append(127));
        Checks.refuses("21: append(65536 + 120)", ARGUMENT, () -> judge.append(65536 + 120));
        Checks.refuses("21: append(-1)", ARGUMENT, () -> judge.append(-1));
        for (int length = 3; length <= 60; length++) {
            Checks.same("21: append(120)", length, judge.append(120));
        }
        Checks.refuses("21: a full buffer", STATE, () -> judge.append(120));
        Checks.same("21: it stays full", 60, judge.clearBuffer());
        Checks.same("21: nothing is saved", 0, judge.savedStates());
    }

    private static void clearBuffer() {
        ClaimJudge judge = Checks.of("x:1");
        Checks.same("22: an empty buffer", 0, judge.clearBuffer());
        Checks.type(judge, "y:2;");
        Checks.same("22: clearBuffer()", 4, judge.clearBuffer());
        Checks.same("22: it is empty then", 0, judge.clearBuffer());
        Checks.same("22: nothing is left of it", 1, Checks.load(judge, "z:3"));
        Checks.same("22: nothing more is saved", 2, judge.savedStates());
    }

    private static void misfit(String text, int want) {
        ClaimJudge judge = new ClaimJudge();
        Checks.type(judge, text);
        Checks.same("23: firstError() of " + text, want, judge.firstError());
        Checks.same("23: the buffer stays", text.length(), judge.clearBuffer());
    }

    private static void firstError() {
        String[] fitting = {"", "x", "x:", "x:y", "x:7", "x:y+", "x:y-", "x:y+7", "x:0-0", "x:1;", "!", "!x", "!x=", 
            "!x#z", "!x<7", "?", "?y", "?y>", "?y>0", "?y>0@", "?y>0@0", "?y>0@1", "?y>0@10", "?y>0@11", "?y>0@12", "?y>0@9;x",
            "?y>0@12;!", TWELVE, "x:1;!y=2;?z<3@7;x:x-1"};
        for (String text : fitting) {
            misfit(text, text.length());
        }
        misfit("w", 0);
        misfit(";", 0);
        misfit("1", 0);
        misfit("X", 0);
        misfit("x=1", 1);
        misfit("x:8", 2);
        misfit("x:-1", 2);
        misfit("x:12", 3);
        misfit("x:yy", 3);
        misfit("x:1+y", 4);
        misfit("x:1-8", 4);
        misfit("x:1+1+1", 5);
        misfit("x:1+1;;", 6);
        misfit("!1", 1);
        misfit("!x:1", 2);
        misfit("!x=8", 3);
        misfit("!x=1@", 4);
        misfit("!x=1+1", 4);
        misfit("?x=1;", 4);
        misfit("?x=y+", 4);
        misfit("?x=1@x", 5);
        misfit("?x=1@;", 5);
        misfit("?x=1@00", 6);
        misfit("?x=1@20", 6);
        misfit("?x=1@13", 6);
        misfit("?x=1@120", 7);
        misfit("?x=1@9?", 6);
        misfit("x:1wx:2w", 3);
        misfit(TWELVE + ";", 47);
        misfit(TWELVE + "+", 48);
        misfit(TWELVE + "!", 47);
        misfit("x:1;x:1;x:1;x:1;x:1;x:1;x:1;x:1;x:1;x:1;x:1;?x=1@12", 51);
        misfit("x:1;x:1;x:1;x:1;x:1;x:1;x:1;x:1;x:1;x:1;x:1;?x=1@1;", 50);
        misfit("x:1+1;x:1+1;x:1+1;x:1+1;x:1+1;x:1+1;x:1+1;x:1+1;x:1+1;x:1+1;", 60);
    }

    private static void undo() {
        undoOfEachKind();
        undoOfSix();
    }

    private static void undoOfEachKind() {
        ClaimJudge judge = new ClaimJudge();
        Checks.refuses("24: undo() of nothing", STATE, judge::undo);
        Checks.load(judge, "!x=1");
        judge.assume(0, 1, 1);
        Checks.add(judge, "x:2");
        judge.removeLast();
        judge.removeLast();
        Checks.same("24: the fourth", 4, judge.undo());
        Checks.same("24: the claim is back", 1, judge.verdict(0));
        Checks.same("24: the third", 3, judge.undo());
        Checks.same("24: the assignment is back", 2, judge.statements());
        Checks.same("24: the second", 2, judge.undo());
        Checks.same("24: without it", 1, judge.statements());
        Checks.same("24: the first", 1, judge.undo());
        Checks.same("24: the bounds are back", 2, judge.verdict(0));
        Checks.same("24: the last", 0, judge.undo());
        Checks.same("24: empty again", 0, judge.statements());
        Checks.refuses("24: undo() of nothing", STATE, judge::undo);
    }

    private static void undoOfSix() {
        ClaimJudge judge = new ClaimJudge();
        long[] digests = new long[6];
        for (int n = 0; n < 6; n++) {
            digests[n] = judge.digest();
            judge.assume(2, n + 1, 7);
        }
        Checks.type(judge, "y:1");
        for (int n = 5; n >= 0; n--) {
            Checks.same("24: undo()", n, judge.undo());
            Checks.same("24: the digest", digests[n], judge.digest());
        }
        Checks.same("24: the buffer is no part of the state", 3, judge.clearBuffer());
    }

    private static void savedStates() {
        ClaimJudge judge = new ClaimJudge();
        for (int n = 1; n <= 6; n++) {
            judge.assume(0, n, 7);
            Checks.same("25: savedStates()", n, judge.savedStates());
        }
        judge.assume(0, 7, 7);
        Checks.same("25: at most six", 6, judge.savedStates());
        for (int n = 5; n >= 0; n--) {
            judge.undo();
            Checks.same("25: savedStates()", n, judge.savedStates());
        }
        Checks.same("25: the oldest is discarded", 1, judge.least(0, 0));
        Checks.refuses("25: and gone", STATE, judge::undo);
    }

    private static void digest() {
        Checks.same("26: of a new object", hash(0, 0, 1, 0, 7, 0, 7, 0, 7, 7, 7, 7), new ClaimJudge().digest());
        ClaimJudge judge = Checks.of(LOOP);
        judge.assume(1, 2, 3);
        Checks.same("26: of a loop", hash(4, 0, 2,
                2, 3, 384, -1, -1, 0, 7, 2, 3, 0, 7,
                0, -1, 384, -1, -1, 0, 4, 2, 3, 0, 7,
                2, 0, 384, -1, -1, 1, 5, 2, 3, 0, 7,
                1, -1, 64, 2, 6 * 64 + 16, 5, 7, 2, 3, 0, 7,
                5, 5, 2, 3, 0, 7,
                5, -1, -1), judge.digest());
        judge.undo();
        judge.undo();
        Checks.same("26: undone", new ClaimJudge().digest(), judge.digest());
        judge = Checks.of("?x=x@0;!y=0");
        Checks.same("26: of an endless one", hash(2, 512, 0,
                2, 0, 0, -1, -1, 0, 7, 0, 7, 0, 7,
                1, -1, 64, 0, -1, -1, -1, -1, -1, -1, -1,
                -1, -1, -1, -1, -1, -1,
                -1, -1, -1), judge.digest());
        long before = judge.digest();
        Checks.type(judge, "x:1");
        Checks.same("26: the buffer is no part of it", before, judge.digest());
    }

    private static long hash(int... values) {
        long hash = 4234;
        for (int value : values) {
            hash = 31 * hash + value;
        }
        return hash;
    }

    private static void asks(String when, ClaimJudge judge, int end, int proof) {
        Checks.same(when + ": run(0, 0, 0)", end, judge.run(0, 0, 0));
        Checks.same(when + ": proof()", proof, judge.proof());
    }

    /** Each change comes after questions, so that an answer kept from before would be seen. */
    private static void answersFollowChanges() {
        ClaimJudge judge = new ClaimJudge();
        asks("new", judge, 1000, 1);
        Checks.load(judge, "!x=1");
        asks("2: after load()", judge, 0, 2);
        Checks.load(judge, "x:1");
        asks("2: after load()", judge, 1064, 1);
        Checks.add(judge, "?x=1@0");
        asks("3: after add()", judge, ClaimJudge.NONE, 0);
        judge.removeLast();
        asks("4: after removeLast()", judge, 1064, 1);
        judge.undo();
        asks("24: after undo()", judge, ClaimJudge.NONE, 0);
        Checks.load(judge, "!z=0");
        asks("2: after load()", judge, 1000, 2);
        judge.assume(2, 0, 0);
        asks("12: after assume()", judge, 1000, 1);
        judge.undo();
        asks("24: after undo()", judge, 1000, 2);
    }

    private static void severalExceptions() {
        ClaimJudge judge = new ClaimJudge();
        Checks.refuses("11: both", INDEX, () -> judge.demands(1, 9, 9, 9));
        Checks.refuses("12: both", INDEX, () -> judge.assume(3, 5, 2));
        for (int n = 0; n < 60; n++) {
            judge.append(120);
        }
        Checks.refuses("21: both", ARGUMENT, () -> judge.append(127));
    }

    private static void refusedCallsChangeNothing() {
        ClaimJudge judge = Checks.of(LOOP);
        judge.assume(0, 1, 6);
        Checks.type(judge, "x:1;?x=1@9");
        long before = judge.digest();
        Checks.refuses("load", ARGUMENT, judge::load);
        Checks.refuses("add", ARGUMENT, judge::add);
        Checks.refuses("assume", ARGUMENT, () -> judge.assume(0, 3, 9));
        Checks.refuses("assume", INDEX, () -> judge.assume(4, 3, 3));
        Checks.refuses("append", ARGUMENT, () -> judge.append(200));
        Checks.refuses("run", ARGUMENT, () -> judge.run(0, 0, 9));
        Checks.refuses("widest", INDEX, () -> judge.widest(7));
        Checks.same("the state stays", before, judge.digest());
        Checks.same("the saved states stay", 2, judge.savedStates());
        Checks.same("the buffer stays", 10, judge.clearBuffer());
    }
}
