/** Every promise on the empty TEXT of a new object. */
public final class EmptyTest {
    private static final Expect expect = new Expect("EmptyTest");

    public static void main(String[] args) {
        numbers();
        line();
        tree();
        nothingThere();
        nothingToDo();
        places();
        textsEmptiedAgain();
        expect.end();
    }

    private static void idle(String line, String want) {
        Caller caller = new Caller();
        long before = caller.desk.digest();
        expect.same(line, caller.call(line), want);
        expect.same(line + " changes nothing", caller.desk.digest(), before);
    }

    private static void allIdle(String want, String... lines) {
        for (String line : lines) {
            idle(line, want);
        }
    }

    private static void numbers() {
        int[] wants = {0, 1, 0, 1, 0, 0, 1, 0, 0, 0, 0, 1, 0, 0, 0, 0};
        for (int what = 0; what < wants.length; what++) {
            idle("desk " + what, "" + wants[what]);
        }
    }

    private static void line() {
        int[] wants = {0, 0, 0, 0, -1, 0, 0};
        for (int what = 0; what < wants.length; what++) {
            idle("ofLine 0 " + what, "" + wants[what]);
        }
        allIdle("", "text 0", "all");
        allIdle("throws java.lang.IndexOutOfBoundsException", "text 1", "text -1", "ofLine 1 0", "fold 0 1", "foldBlock 1",
            "open 1", "at 1 0", "at 0 1", "also 1 0", "also 0 1");
        allIdle("throws java.lang.IllegalArgumentException", "fold 0 0");
    }

    /** A PROGRAM without WORDS: it would begin at the number of WORDS, which is 0. */
    private static void tree() {
        for (int what = 0; what < 5; what++) {
            idle("node 0 " + what, "0");
        }
        allIdle("throws java.lang.IndexOutOfBoundsException", "node 1 0", "word 0", "ofWord 0 0", "thing 0 0", "uses 0",
            "fault 0 0", "rename 0 0", "draw 0 0 true", "putIn 0", "turn 0");
    }

    private static void nothingThere() {
        allIdle("", "outline", "run", "complete 0 true", "complete 0 false");
        allIdle("0", "ran 0", "ran 1", "ran 2", "changed", "cursors");
        for (int shape = 0; shape < 10; shape++) {
            allIdle("-1", "find " + shape + " 0", "refine " + shape);
        }
        allIdle("-1", "leap", "jump 0", "jump 3");
        idle("isSound", "true");
    }

    private static void nothingToDo() {
        allIdle("-9", "undo", "redo 0", "foldBlock 0");
        allIdle("0", "erase", "lone", "open 0", "indent 0", "indent 4", "prune", "save", "drawn", "play 1", "play 3",
            "record false", "record true");
    }

    private static void places() {
        idle("at 0 0", "0");
        idle("also 0 0", "1");
        for (int where = 0; where < 8; where++) {
            idle("go " + where, "1");
        }
        Bracketdesk desk = new Bracketdesk();
        expect.same("no mark before", desk.mark(1), -1);
        expect.same("a mark at place 0", desk.jump(1), 0);
        expect.same("it was there", desk.mark(1), 0);
    }

    /** A text that was taken away again is as empty as at first. */
    private static void textsEmptiedAgain() {
        Bracketdesk desk = Typist.desk("f\n");
        desk.fold(0, 1);
        desk.save();
        desk.mark(0);
        desk.erase();
        desk.erase();
        expect.same("no text", desk.all(), "");
        int[] wants = {0, 1, 0, 1, 0, 0, 1, 0, 0, 1, 1, 5, 4, 0, 0, 0};
        for (int what = 0; what < wants.length; what++) {
            expect.same("emptied, desk " + what, desk.desk(what), wants[what]);
        }
        expect.same("nothing to erase", desk.erase(), 0);
        expect.same("the mark", desk.jump(0), 0);
        expect.same("no statement is left", desk.changed(), 0);
        expect.same("run", desk.run(), "");
        expect.same("undone", desk.undo(), 3);
        expect.same("the text before", desk.all(), "f");
        expect.same("the statement that was saved", desk.changed(), 0);
        expect.same("sound", desk.isSound(), true);
    }
}
