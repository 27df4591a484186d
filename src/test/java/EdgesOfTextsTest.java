/** The edges that promises 21 to 26 name: a test for each of their sentences. */
public final class EdgesOfTextsTest {
    /** Sixty characters, ten statements, with a jump to the first. */
    private static final String SIXTY = Checks.many(9, "x:x+1") + ";?x<5@0";

    public static void main(String[] args) {
        append();
        clearBuffer();
        firstError();
        undo();
        savedStates();
        digest();
        Checks.finish();
    }

    private static void append() {
        Checks.test("21: Appends a character to the buffer.", () -> {
            ClaimJudge judge = new ClaimJudge();
            Checks.same("all sixty of them", 10, Checks.load(judge, SIXTY));
            Checks.same("in their order", 0, judge.target(9));
            Checks.load(judge, "x:1");
            judge.append('y');
            judge.append(':');
            judge.append('2');
            Checks.same("behind a load()", 1, judge.load());
            Checks.same("nothing of before", 1016, judge.run(0, 0, 0));
            Checks.same("nothing is saved by it", 3, judge.savedStates());
        });
        Checks.test("21: Returns the new length of the buffer.", () -> {
            ClaimJudge judge = new ClaimJudge();
            for (int length = 1; length <= 60; length++) {
                Checks.same("append()", length, judge.append(33 + length));
            }
            judge.clearBuffer();
            Checks.same("after clearBuffer()", 1, judge.append('x'));
            judge.append(':');
            judge.append('1');
            judge.load();
            Checks.same("after load()", 1, judge.append('x'));
        });
        Checks.test("21: Throws `IllegalArgumentException` if code is out of range", () -> {
            for (int code = -200; code < 400; code++) {
                appends(code);
            }
            int[] far = {Integer.MIN_VALUE, Integer.MAX_VALUE, 65536 + 120, 256 + 120, 120 - 65536, 120 - 256};
            for (int code : far) {
                appends(code);
            }
        });
        Checks.test("21: Throws `IllegalStateException` if the buffer contains 60 characters", () -> {
            ClaimJudge judge = new ClaimJudge();
            Checks.type(judge, SIXTY.substring(0, 59));
            Checks.same("the sixtieth", 60, judge.append('0'));
            Checks.refusesState("one more", () -> judge.append(';'));
            Checks.refusesState("and again", () -> judge.append('0'));
            Checks.same("the sixty can be loaded", 10, judge.load());
            Checks.same("then there is room", 1, judge.append('x'));
        });
    }

    private static void appends(int code) {
        ClaimJudge judge = new ClaimJudge();
        if (code >= 33 && code <= 126) {
            Checks.same("append(" + code + ")", 1, judge.append(code));
        } else {
            Checks.refusesArgument("append(" + code + ")", () -> judge.append(code));
            Checks.same("the buffer stays", 0, judge.clearBuffer());
        }
    }

    private static void clearBuffer() {
        Checks.test("22: Empties the buffer.", () -> {
            ClaimJudge judge = Checks.of("x:1");
            Checks.type(judge, "?x=9");
            judge.clearBuffer();
            Checks.same("no error is left", 0, judge.firstError());
            Checks.refusesArgument("no text is left", judge::load);
            Checks.type(judge, "y:1");
            Checks.same("nothing stands before what is typed then", 1, judge.load());
            Checks.same("the program was not touched", 1, judge.undo());
            Checks.same("the program was not touched", 1064, judge.run(0, 0, 0));
        });
        Checks.test("22: Returns the length that it had.", () -> {
            ClaimJudge judge = new ClaimJudge();
            Checks.same("empty", 0, judge.clearBuffer());
            Checks.type(judge, SIXTY);
            Checks.same("full", 60, judge.clearBuffer());
            Checks.same("empty again", 0, judge.clearBuffer());
            judge.append('~');
            Checks.same("an error counts, too", 1, judge.clearBuffer());
            Checks.load(judge, "x:1");
            Checks.same("after load()", 0, judge.clearBuffer());
            Checks.add(judge, "x:1");
            Checks.same("after add()", 0, judge.clearBuffer());
        });
    }

    private static void firstErrorOf(String text, int due) {
        ClaimJudge judge = new ClaimJudge();
        Checks.type(judge, text);
        Checks.same("firstError() of " + text, due, judge.firstError());
        Checks.same("once more", due, judge.firstError());
        Checks.same("the buffer stays", text.length(), judge.clearBuffer());
    }

    private static void firstError() {
        Checks.test("23: Returns the index of the first character that is an error", () -> {
            firstErrorOf("~", 0);
            firstErrorOf("w:1;w:1", 0);
            firstErrorOf("x:1;y=1;!z:1", 5);
            firstErrorOf("x:9x:9", 2);
            firstErrorOf("?x=1@13", 6);
            firstErrorOf("?x=1@012", 6);
            firstErrorOf("!!", 1);
            firstErrorOf(SIXTY.substring(0, 59) + "x", 59);
            firstErrorOf(SIXTY.substring(0, 58) + "x0", 58);
            firstErrorOf("~".repeat(60), 0);
            firstErrorOf("x".repeat(60), 1);
        });
        Checks.test("Nothing is promised beyond the answers and state changes described above", () -> {
            ClaimJudge judge = Checks.of("!x<3;?y=0@0");
            long before = judge.digest();
            Checks.type(judge, "z:1;z:2;z:3;z=4");
            Checks.same("an error behind three statements", 13, judge.firstError());
            Checks.refusesArgument("so it cannot be loaded", judge::load);
            Checks.same("23: firstError() changes nothing", before, judge.digest());
            Checks.same("23: firstError() saves nothing", 1, judge.savedStates());
            Checks.same("23: the buffer stays", 15, judge.clearBuffer());
        });
        Checks.test("23: the length of the buffer if there is none", () -> {
            firstErrorOf("", 0);
            firstErrorOf("x:1", 3);
            firstErrorOf(SIXTY, 60);
            firstErrorOf(Checks.many(12, "!x=1"), 59);
            firstErrorOf("?x=1@12", 7);
        });
        Checks.test("23: (also if the buffer is not a complete program text)", () -> {
            String whole = "x:y-1;!z#2;?x=1@12;y:0;?z>x@9";
            for (int length = 0; length <= whole.length(); length++) {
                firstErrorOf(whole.substring(0, length), length);
            }
            firstErrorOf(Checks.many(10, "x:x+1") + ";", 60);
            firstErrorOf(Checks.many(11, "x:1") + ";", 44);
        });
        Checks.test("A program text is 1 to 12 statements with \";\" between them", () -> {
            firstErrorOf(Checks.many(12, "x:1") + ";", 47);
            firstErrorOf(Checks.many(12, "x:1") + ";x:1", 47);
            firstErrorOf(Checks.many(12, "x:1") + "+1;", 49);
            firstErrorOf(Checks.many(11, "x:1") + ";!x=1;", 48);
            firstErrorOf(Checks.many(11, "x:1") + ";?x=1@1;", 50);
        });
    }

    private static void undo() {
        Checks.test("24: Restores the state that was saved last, and removes it from the saved states.", () -> {
            undoRestores();
            changesBehindAnUndo();
        });
        Checks.test("24: Returns the number of saved states that are left.", () -> {
            for (int saves = 1; saves <= 9; saves++) {
                ClaimJudge judge = new ClaimJudge();
                for (int n = 0; n < saves; n++) {
                    judge.assume(0, 0, n % 8);
                }
                for (int left = Math.min(saves, 6) - 1; left >= 0; left--) {
                    Checks.same(saves + " saves, undo()", left, judge.undo());
                    Checks.same("savedStates()", left, judge.savedStates());
                }
            }
        });
        Checks.test("24: Throws `IllegalStateException` if no state is saved", () -> {
            ClaimJudge judge = new ClaimJudge();
            Checks.refusesState("a new object", judge::undo);
            Checks.refusesArgument("a refused load()", judge::load);
            Checks.refusesState("it has saved nothing", judge::undo);
            judge.assume(0, 1, 1);
            judge.undo();
            Checks.refusesState("all is undone", judge::undo);
            Checks.same("the bounds are those of the beginning", 7, judge.greatest(0, 0));
            for (int n = 0; n < 8; n++) {
                judge.assume(0, n, n);
            }
            for (int n = 0; n < 6; n++) {
                judge.undo();
            }
            Checks.refusesState("the older ones are discarded", judge::undo);
            Checks.same("so the second bounds stay", 1, judge.greatest(0, 0));
        });
    }

    private static void undoRestores() {
        ClaimJudge judge = new ClaimJudge();
        judge.assume(1, 2, 4);
        Checks.load(judge, "x:1");
        Checks.load(judge, "!y<4");
        Checks.add(judge, "?z=0@2");
        judge.removeLast();
        Checks.type(judge, "z:7");
        long last = judge.digest();
        judge.assume(0, 3, 3);
        judge.undo();
        Checks.same("before the last assume()", last, judge.digest());
        Checks.same("before the last assume()", 7, judge.greatest(0, 0));
        judge.undo();
        Checks.same("before removeLast()", 2, judge.target(1));
        judge.undo();
        Checks.same("before add()", 1, judge.statements());
        Checks.same("before add()", 2, judge.verdict(0));
        judge.undo();
        Checks.same("before the second load()", 1064, judge.run(0, 0, 0));
        judge.undo();
        Checks.same("before the first load()", 0, judge.statements());
        Checks.same("behind the first assume()", 24, 10 * judge.least(0, 1) + judge.greatest(0, 1));
        judge.undo();
        Checks.same("before the first assume()", 7, 10 * judge.least(0, 1) + judge.greatest(0, 1));
        Checks.same("the buffer is no part of the state", 1, judge.load());
        Checks.same("an undo cannot be undone", 1, judge.savedStates());
        judge.assume(0, 5, 5);
        Checks.same("a new save after undos", 2, judge.savedStates());
        judge.undo();
        Checks.same("restores what was then", 1007, judge.run(0, 0, 0));
        Checks.same("restores what was then", 0, judge.least(0, 0));
    }

    /** What is saved stays as it was, also if it was saved where an undone state had been. */
    private static void changesBehindAnUndo() {
        ClaimJudge judge = Checks.of("?x=0@2;y:1");
        judge.assume(0, 2, 5);
        judge.undo();
        Checks.add(judge, "!x#0");
        judge.undo();
        Checks.same("add() behind an undo", 2, judge.statements());
        judge.removeLast();
        Checks.same("the jump goes with the end", 1, judge.target(0));
        judge.undo();
        Checks.same("removeLast() behind an undo", 2, judge.target(0));
        judge.assume(2, 6, 6);
        judge.undo();
        Checks.same("assume() behind an undo", 0, judge.least(0, 2));
        Checks.load(judge, "!y#2");
        judge.undo();
        Checks.same("load() behind an undo", 2, judge.kind(0));
        Checks.same("one save is left", 1, judge.savedStates());
        Checks.same("the program is that of the beginning", 1001, judge.run(0, 0, 1));
    }

    private static void savedStates() {
        Checks.test("25: Returns the number of saved states, 0 to 6.", () -> {
            ClaimJudge judge = new ClaimJudge();
            Checks.same("at first", 0, judge.savedStates());
            for (int saves = 1; saves <= 15; saves++) {
                judge.assume(saves % 3, 0, 7);
                Checks.same("after " + saves, Math.min(saves, 6), judge.savedStates());
            }
            judge.undo();
            Checks.same("after an undo()", 5, judge.savedStates());
            judge.assume(0, 0, 7);
            Checks.same("six again", 6, judge.savedStates());
            judge.assume(0, 0, 7);
            Checks.same("still six", 6, judge.savedStates());
            Checks.refusesArgument("a refused assume()", () -> judge.assume(0, 0, 8));
            Checks.same("still six", 6, judge.savedStates());
        });
    }

    private static long hash(long... values) {
        long hash = 4234;
        for (long value : values) {
            hash = 31 * hash + value;
        }
        return hash;
    }

    private static void digest() {
        Checks.test("26: The hash starts at 4234. For each value v of the following list, in order, the hash becomes"
                + " 31 * hash + v, in long arithmetic with overflow.", () -> {
            Checks.same("below 0 by overflow", -3896424148298075429L, new ClaimJudge().digest());
            Checks.same("of twelve values", hash(0, 0, 1, 0, 7, 0, 7, 0, 7, 7, 7, 7), new ClaimJudge().digest());
        });
        Checks.test("26: The values are: what statements(), endless() and proof() return; for each statement its kind,"
                + " what target() returns, the size of its demand, its verdict, the example against it, and the least and"
                + " the greatest values of x, y and z at it (least x, greatest x, least y, and so on);", () -> {
            ClaimJudge judge = Checks.of("x:z;!z<6;?y=0@2");
            judge.assume(0, 5, 6);
            judge.assume(1, 0, 3);
            judge.assume(2, 2, 6);
            Checks.same("of all kinds", hash(3, 8, 2,
                    0, -1, 336, -1, -1, 5, 6, 0, 3, 2, 6,
                    1, -1, 336, 2, 5 * 64 + 6, 2, 6, 0, 3, 2, 6,
                    2, 2, 448, -1, -1, 2, 5, 0, 3, 2, 5,
                    2, 5, 1, 3, 2, 5,
                    -1, -1, -1), judge.digest());
        });
        Checks.test("26: the same six values for the number of statements; for each variable what widest() returns.", () -> {
            Checks.same("an end that is not reached", hash(1, 0, 2,
                    1, -1, 0, 2, 0, 0, 7, 0, 7, 0, 7,
                    -1, -1, -1, -1, -1, -1,
                    -1, -1, -1), Checks.of("!x#x").digest());
            ClaimJudge judge = Checks.of("!x<6;!y>0");
            judge.assume(1, 2, 3);
            judge.assume(2, 4, 4);
            Checks.same("an end that is", hash(2, 0, 2,
                    1, -1, 336, 2, 6 * 64 + 2 * 8 + 4, 0, 7, 2, 3, 4, 4,
                    1, -1, 448, 1, -1, 0, 5, 2, 3, 4, 4,
                    0, 5, 2, 3, 4, 4,
                    5, -1, -1), judge.digest());
            judge.assume(0, 1, 2);
            Checks.same("with other ranges", hash(2, 0, 1,
                    1, -1, 336, 1, -1, 1, 2, 2, 3, 4, 4,
                    1, -1, 448, 1, -1, 1, 2, 2, 3, 4, 4,
                    1, 2, 2, 3, 4, 4,
                    5, 17, 7), judge.digest());
        });
        Checks.test("26: Computes a hash of the state.", () -> {
            ClaimJudge judge = Checks.of(Checks.many(12, "x:1"));
            long before = judge.digest();
            Checks.same("once more", before, judge.digest());
            judge.append('x');
            Checks.same("the buffer does not count", before, judge.digest());
            judge.assume(0, 0, 7);
            Checks.same("the saved states do not count", before, judge.digest());
            judge.undo();
            Checks.same("after undo()", before, judge.digest());
        });
    }
}
