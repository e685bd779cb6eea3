/** Every answer that is REFUSED, NONE or -10 less a WORD, for each of its reasons, and that nothing has changed. */
public final class RefusedTest {
    private static final Expect expect = new Expect("RefusedTest");

    public static void main(String[] args) {
        leaps();
        jumps();
        steps();
        blocks();
        eachFault();
        faultsThatWouldGo();
        namesThatMeanNothing();
        notDrawn();
        drawnAllTheSame();
        notPutIn();
        putInAllTheSame();
        notTurned();
        notRefined();
        firstWordThatIsLost();
        noneOfAWord();
        expect.end();
    }

    private static void is(String text, String call, int answer) {
        Caller caller = new Caller();
        caller.desk = Typist.desk(text);
        long before = caller.desk.digest();
        expect.same(call + " in " + text, caller.call(call), "" + answer);
        boolean isDone = answer >= 0;
        expect.same(call + " changes the desk of " + text, caller.desk.digest() != before, isDone);
    }

    /** Each in turn on the same desk: all are REFUSED, so none finds another desk than the first. */
    private static void refused(String text, String... calls) {
        Caller caller = new Caller();
        caller.desk = Typist.desk(text);
        for (String call : calls) {
            expect.refused(caller.desk, call + " in " + text, () -> Integer.parseInt(caller.call(call)));
        }
    }

    private static void leaps() {
        String text = "({a)\n/*(*/'()'(+)";
        Bracketdesk desk = Typist.desk(text);
        int[] lost = {0, 1, 2, 3, 4, 5, 7, 10, 11, 12, 13, 15, 17};
        for (int place : lost) {
            Typist.cursorsAt(desk, place, Math.max(place, 16));
            expect.idle(desk, "no leap from " + place, -1, desk::leap);
        }
        Typist.cursorsAt(desk, 14, 17);
        expect.same("to the partner", desk.leap(), 16);
        expect.same("the only one", desk.cursors(), "16");
        Typist.cursorsAt(desk, 2, 14);
        expect.idle(desk, "the first cursor counts", -1, desk::leap);
        expect.idle(new Bracketdesk(), "no sign", -1, () -> new Bracketdesk().leap());
    }

    private static void jumps() {
        Bracketdesk desk = Typist.desk("abc");
        Typist.cursorsAt(desk, 0, 2);
        desk.mark(2);
        for (int k : new int[] {0, 1, 3}) {
            expect.idle(desk, "no mark " + k, -1, () -> desk.jump(k));
        }
        expect.same("both cursors are there", desk.cursors(), "0 2");
        expect.same("a mark", desk.jump(2), 0);
    }

    private static void steps() {
        Bracketdesk desk = Typist.desk("ab");
        expect.refused(desk, "no child", () -> desk.redo(0));
        expect.refused(desk, "no far child", () -> desk.redo(Integer.MAX_VALUE));
        desk.undo();
        expect.refused(desk, "no second child", () -> desk.redo(1));
        desk.key(2);
        desk.undo();
        expect.refused(desk, "no third child", () -> desk.redo(2));
        expect.same("the second one", desk.redo(1), 3);
        desk.undo();
        desk.undo();
        expect.refused(desk, "the first state", desk::undo);
        expect.refused(desk, "it has one child", () -> desk.redo(1));
        expect.same("that", desk.redo(0), 1);
    }

    private static void blocks() {
        refused("out 1;", "foldBlock 0");
        refused("if 1 {out 1;}\n", "foldBlock 0", "foldBlock 1");
        refused("if 1 {\n", "foldBlock 0", "foldBlock 1");
        refused("(\n)", "foldBlock 0", "foldBlock 1");
        refused("{\n}", "foldBlock 1");
        refused("'{'/*{*/\n}", "foldBlock 0");
        is("{ {}\n}", "foldBlock 0", 1);
        is("{{\n}\n}", "foldBlock 0", 1);
        is("{ {\n}\n{}}", "foldBlock 0", 1);
        refused("{{\n(\n}}", "foldBlock 0", "foldBlock 1");
    }

    private static final String BASE = "if (1) {} else {} let a = 0 + 1; out a;let b = 1;";
    private static final String[] CHANGES = {
        "rename 10 2", "rename 10 0", "draw 12 25 true", "putIn 10", "turn 0", "prune", "refine 1", "refine 6", "refine 9"};

    /** By KIND a text with just that FAULT. */
    private static final String[] FAULTY = {
        "let = 1;", "let c 1;", "out 1", "if 1", "{", "fun f) {}", "(1;", "out ;", "}", "out c;", "fun f() {} out f;",
        "a();", "fun f() {} f(1);", "ret 1;", "out 'x\n;", "/*"};

    private static void eachFault() {
        for (int kind = 0; kind < FAULTY.length; kind++) {
            String text = BASE + FAULTY[kind];
            Bracketdesk desk = Typist.desk(text);
            expect.same("faults of " + text, desk.desk(5) + " of kind " + desk.fault(0, 0), "1 of kind " + kind);
            refused(text, CHANGES);
            expect.same("no run of " + text, desk.run() + desk.ran(0) + desk.ran(1) + desk.ran(2), "?-1-1-1");
        }
        for (String change : CHANGES) {
            if (!change.equals("rename 10 0") && !change.equals("refine 9")) {
                Caller caller = new Caller();
                caller.desk = Typist.desk(BASE);
                expect.same(change + " without faults", Integer.parseInt(caller.call(change)) >= 0, true);
            }
        }
        is(BASE, "refine 9", -1);
        expect.idle(Typist.desk(BASE), "the same name", 0, () -> Typist.desk(BASE).rename(10, 0));
    }

    /** REFUSED, too, where the FAULT itself would go, and where nothing would be done. */
    private static void faultsThatWouldGo() {
        refused("let a = b;", "prune", "rename 1 1");
        refused("out b * 0;", "refine 8", "refine 7");
        refused("let a = ret;", "prune");
        refused("out b;", "prune");
        refused("let a = 1;{out b;}", "prune", "putIn 1");
    }

    private static void namesThatMeanNothing() {
        refused("let a = 1; out a + 'a'; /*a*/", "rename 0 1", "rename 2 1", "rename 3 1", "rename 4 1", "rename 5 1",
            "rename 7 1", "rename 8 1", "rename 10 1");
        is("let a = 1; out a + 'a'; /*a*/", "rename 6 1", 2);
        is("fun f(b) {}", "rename 3 0", 1);
        refused("fun f(b) {}", "rename 0 0", "rename 2 0", "rename 4 0", "rename 5 0", "rename 6 0");
    }

    private static void notDrawn() {
        refused("let a = 1 + 2; a = 3; /*c*/ out a;", "draw 0 1 true", "draw 1 1 true", "draw 2 1 false", "draw 4 1 true",
            "draw 6 1 true", "draw 7 1 true", "draw 8 1 true", "draw 10 1 true", "draw 11 1 true", "draw 12 1 true");
        refused("fun f(a) {ret a;}", "draw 0 1 true", "draw 1 1 true", "draw 3 1 true", "draw 5 1 true", "draw 9 1 true");
        refused("do 1 + 2 {}", "draw 1 1 true", "draw 1 1 false", "draw 3 1 true");
        refused("out (1);", "draw 3 1 true");
        String call = "fun f(a) {ret a;} let b = 1 + f(2) + 3;";
        refused(call, "draw 13 1 true", "draw 15 1 true", "draw 15 1 false", "draw 17 1 true", "draw 20 1 true");
        refused("fun f() {} f() + 1; out (f());", "draw 6 1 true", "draw 6 1 false", "draw 10 1 true", "draw 13 1 true");
        refused("fun f() {} if f() == 1 {} ", "draw 7 1 true", "draw 11 1 true");
    }

    /** A CALL behind the EXPR, or in another STATEMENT, does not matter. */
    private static void drawnAllTheSame() {
        is("fun f(a) {ret a;} let b = 1 + f(2) + 3;", "draw 13 1 false", 11);
        is("fun f() {} if f() {out 1;}", "draw 12 1 true", 12);
        is("fun f() {} if 1 {f();}", "draw 7 1 true", 7);
        is("fun f() {} f(); out 1;", "draw 11 1 true", 11);
        is("do 1 {out 2;}", "draw 4 1 true", 4);
        for (String expr : new String[] {"1 < 2", "-1", "1", "'a'", "a", "(1)"}) {
            is("let a = 1; out " + expr + ";", "draw 6 1 true", 6);
        }
    }

    private static void notPutIn() {
        refused("let a = 1; out a;", "putIn 0", "putIn 2", "putIn 3", "putIn 4", "putIn 5", "putIn 7");
        refused("let a = 1;", "putIn 1");
        refused("let a = 1; out 2; out a;", "putIn 1");
        refused("let a = 1; out a; out a;", "putIn 1");
        refused("let a = 1; a = 2;", "putIn 1", "putIn 5");
        refused("let a = 1; let a = 2; out a;", "putIn 1");
        refused("let a = 1; {out a;}", "putIn 1");
        refused("let a = 1; do a {}", "putIn 1");
        refused("let a = 1; if 1 {out a;}", "putIn 1");
        refused("let a = 1; if 1 {} else {out a;}", "putIn 1");
        refused("let a = 1; fun f() {ret a;}", "putIn 1");
        refused("fun f(a) {let b = a; {} out b;}", "putIn 3", "putIn 1", "putIn 7");
        refused("fun f() {} let a = f(); out a;", "putIn 7");
        refused("fun f() {} let a = 1; out f() + a;", "putIn 7");
        refused("fun f(b) {} let a = 1; f(a);", "putIn 8");
        refused("let a = 1 + 2; out -------a;", "putIn 1");
        refused("let a = -1; out -------a;", "putIn 1");
    }

    private static void putInAllTheSame() {
        is("fun f() {} let a = 1; out a + f();", "putIn 7", 23);
        is("fun f() {} f(); let a = 1; out a;", "putIn 11", 22);
        is("let a = 1; if a {} else {}", "putIn 1", 15);
        is("let a = 1; out -------a;", "putIn 1", 13);
        is("{let a = 1; out a;} out 2;", "putIn 2", 15);
    }

    private static void notTurned() {
        refused("if 1 {} else {out 2;} if 1 {} {if 1 {}}", "turn 1", "turn 2", "turn 4", "turn 5", "turn 9", "turn 10",
            "turn 14", "turn 15");
        refused("do 1 {}", "turn 0");
        refused("/*c*/ if 1 {}", "turn 0", "turn 1");
        refused("if -------1 {} else {}", "turn 0");
        refused("if (((((((1))))))) {} else {}", "turn 0");
        refused("if ((((((1)))))) < 3 {} else {}", "turn 0");
        is("if (((((1))))) < 3 {} else {}", "turn 0", 32);
        is("if ------1 {} else {}", "turn 0", 22);
        is("if ((((((1)))))) {} else {}", "turn 0", 28);
        is("if !------1 {} else {}", "turn 0", 21);
    }

    private static void notRefined() {
        for (int shape = 0; shape < 10; shape++) {
            is("out 1 + 2 * 3; out !-1; out (1 + 2); out 1 - 2; out 1 == 2;", "refine " + shape, -1);
        }
    }

    private static void firstWordThatIsLost() {
        is("let a = 1; let b = 2; out a + b; out b + a;", "rename 6 0", -10 - 11);
        is("let a = 1; let b = 2; out b + b; out b + a;", "rename 6 0", -10 - 18);
        is("let a = 1; let b = 2; out b + b; out b + a;", "rename 1 1", -10 - 18);
        is("let b = 1; out 2 + b; out b;", "draw 6 1 false", -10 - 8);
        is("let b = 1; {out 2; out b;} out b;", "draw 7 1 false", -10 - 10);
        is("let b = 1; {out 2;} out b;", "draw 7 1 false", 7);
        is("/*c*/ let b = 1; out 2; b = 3;", "draw 7 1 false", -10 - 9);
        is("fun f() {} let a = 1; f();", "rename 7 5", -10 - 11);
        is("fun f() {let a = 1; f();}", "rename 6 5", -10 - 10);
        is("f(); fun f() {} fun g() {}", "rename 11 5", 1);
        is("fun g() {} fun f() {} f();", "rename 1 5", -10 - 12);
    }

    private static void noneOfAWord() {
        Bracketdesk desk = Typist.desk("let a = 1 ( ' /*");
        expect.same("partners", Typist.ofWords(desk, 3), "-1 -1 -1 -1 -1 -1");
        expect.same("things", Typist.ofWords(desk, 4), "-1 0 -1 -1 -1 -1");
        expect.same("guesses", Typist.ofWords(desk, 5), "-1 -1 -1 -1 -1 -1");
        expect.same("values", Typist.ofWords(desk, 6), "-1 -1 -1 1 -1 3");
        expect.same("no parameters of a variable", desk.thing(0, 4), -1);
        expect.same("no fold from the line", desk.ofLine(0, 4), -1);
        expect.same("no such shape", desk.find(6, 1), -1);
        expect.same("no such name", desk.complete(0, true), "");
    }
}
