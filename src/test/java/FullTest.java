/** 500 SIGNS, 39 LINE ENDS, 4 CURSORS, 4 MARKS, 20 acts, 300 STATES: the last that is taken, the first that is not. */
public final class FullTest {
    private static final Expect expect = new Expect("FullTest");

    public static void main(String[] args) {
        keys();
        pieces();
        signsAtSeveralCursors();
        lineEnds();
        lineEndsAtSeveralCursors();
        fullText();
        fullTextChanged();
        cursors();
        marks();
        acts();
        playedUntilFull();
        lastState();
        noMoreStates();
        noMoreStatesForChanges();
        noMoreStatesWhereNothingWouldChange();
        expect.end();
    }

    private static void keys() {
        Bracketdesk desk = Typist.filled("", 499);
        expect.same("499 signs", desk.desk(0), 499);
        expect.same("sign 500", desk.key(51), 500);
        for (int code : new int[] {0, 36, 51, 52}) {
            expect.refused(desk, "key " + code + " as sign 501", () -> desk.key(code));
        }
        expect.refused(desk, "a piece of one sign", () -> desk.say(14));
        expect.same("a full text is erased", desk.erase(), 1);
        expect.same("499 again", desk.desk(0), 499);
        expect.same("a line end as sign 500", desk.key(52), 500);
    }

    private static void pieces() {
        expect.same("13 signs up to 500", Typist.filled("", 487).say(21), 500);
        Bracketdesk desk = Typist.filled("", 488);
        expect.refused(desk, "13 signs up to 501", () -> desk.say(21));
        expect.same("10 signs", desk.say(20), 498);
        expect.refused(desk, "three signs up to 501", () -> desk.say(9));
        expect.same("two signs up to 500", desk.say(30), 500);
    }

    private static void signsAtSeveralCursors() {
        Bracketdesk four = Typist.filled("", 496);
        Typist.cursorsAt(four, 0, 5, 6, 496);
        expect.same("four signs up to 500", four.key(0), 500);
        expect.refused(four, "four more", () -> four.key(0));
        expect.same("four are erased", four.erase(), 4);
        Bracketdesk three = Typist.filled("", 497);
        Typist.cursorsAt(three, 0, 5, 6, 497);
        expect.refused(three, "four signs up to 501", () -> three.key(0));
        Typist.cursorsAt(three, 0, 5, 6);
        expect.same("three signs up to 500", three.key(0), 500);
        Bracketdesk two = Typist.filled("", 474);
        Typist.cursorsAt(two, 0, 474);
        expect.same("two pieces up to 500", two.say(21), 500);
        Bracketdesk more = Typist.filled("", 475);
        Typist.cursorsAt(more, 0, 475);
        expect.refused(more, "two pieces up to 501", () -> more.say(21));
        expect.same("the cursors stay", more.cursors(), "0 475");
    }

    private static Bracketdesk lines(int lineEnds) {
        Bracketdesk desk = new Bracketdesk();
        for (int i = 0; i < lineEnds; i++) {
            desk.key(52);
        }
        return desk;
    }

    private static void lineEnds() {
        Bracketdesk desk = lines(38);
        expect.same("line end 39", desk.key(52), 39);
        expect.same("40 lines", desk.desk(1), 40);
        expect.refused(desk, "line end 40", () -> desk.key(52));
        expect.same("other signs may come", desk.key(0), 40);
        desk.at(5, 0);
        expect.same("one line end less", desk.erase(), 1);
        expect.same("line end 39 again", desk.key(52), 40);
        expect.same("fold all", desk.fold(0, 39), 39);
        expect.thrown(desk, "there is no line 40", IndexOutOfBoundsException.class, () -> desk.fold(0, 40));
        expect.same("the last line", desk.text(39), "a");
        desk.at(39, 0);
        desk.say(17);
        desk.at(39, 2);
        desk.say(17);
        expect.same("40 lines can be indented", desk.indent(1), 1);
        expect.same("its text", desk.text(39), "{ {a");
    }

    private static void lineEndsAtSeveralCursors() {
        Bracketdesk desk = lines(35);
        Typist.cursorsAt(desk, 0, 1, 2, 35);
        expect.same("four line ends up to 39", desk.key(52), 39);
        Bracketdesk more = lines(36);
        Typist.cursorsAt(more, 0, 1, 2, 36);
        expect.refused(more, "four line ends up to 40", () -> more.key(52));
        Typist.cursorsAt(more, 0, 1, 36);
        expect.same("three line ends up to 39", more.key(52), 39);
    }

    /** 500 SIGNS in 40 LINES: every answer is there. */
    private static void fullText() {
        Bracketdesk desk = Typist.filled("let ab = 1 + 0;out ab;", 461);
        for (int i = 0; i < 39; i++) {
            desk.key(52);
        }
        expect.same("signs", desk.desk(0), 500);
        expect.same("lines", desk.desk(1), 40);
        expect.same("the end", desk.go(7) + " " + desk.cursors(), "1 500");
        expect.same("at the end", desk.at(39, 0), 500);
        expect.thrown(desk, "not behind it", IndexOutOfBoundsException.class, () -> desk.at(39, 1));
        expect.same("not behind the end", desk.go(1) + " " + desk.cursors(), "1 500");
        desk.mark(0);
        expect.same("a mark there", desk.jump(0), 500);
        expect.same("all", desk.all().length(), 500);
        expect.same("run", desk.run(), "1");
        expect.same("sound", desk.isSound(), true);
        expect.same("undo", desk.undo() + 1, desk.desk(11) - 1);
        expect.same("the mark goes along", desk.jump(0), 499);
        expect.same("redo", desk.redo(0), desk.desk(11) - 1);
        expect.same("500 again", desk.desk(0), 500);
    }

    /** Changes whose TEXT has just 500 SIGNS, and one more. */
    private static void fullTextChanged() {
        expect.same("indent up to 500", Typist.filled("{\na", 499).indent(1), 1);
        Bracketdesk indented = Typist.filled("{\na", 500);
        expect.refused(indented, "indent up to 501", () -> indented.indent(1));
        expect.same("indent of a full text by nothing", indented.indent(0), 0);
        expect.same("indent that takes blanks away", Typist.filled("  a", 500).indent(4), 1);
        Bracketdesk drawn = Typist.filled("out 7;", 489);
        expect.same("draw up to 500", drawn.draw(1, 0, true), 1);
        expect.same("its size", drawn.desk(0), 500);
        Bracketdesk longer = Typist.filled("out 7;", 490);
        expect.refused(longer, "draw up to 501", () -> longer.draw(1, 0, true));
        expect.same("turn up to 500", Typist.filled("if 1 {} else {}", 499).turn(0), 500);
        Bracketdesk turned = Typist.filled("if 1 {} else {}", 500);
        expect.refused(turned, "turn up to 501", () -> turned.turn(0));
        expect.same("turn that is shorter", Typist.filled("if !1 {} else {}", 500).turn(0), 499);
        expect.same("rename", Typist.filled("let ab = 1;", 500).rename(1, 0), 1);
        expect.same("rename as long", Typist.filled("let b = 1;", 500).rename(1, 0), 1);
        expect.same("put in", Typist.filled("let a = 1;out a;", 500).putIn(1), 490);
        expect.same("prune", Typist.filled("let a = 1;", 500).prune(), 1);
        expect.same("refine", Typist.filled("out 1 + 0;", 500).refine(0), 1);
    }

    private static void cursors() {
        Bracketdesk desk = Typist.desk("abcdef");
        Typist.cursorsAt(desk, 6, 0, 3);
        expect.same("the fourth", desk.also(0, 1), 4);
        for (int column : new int[] {2, 4, 5}) {
            expect.thrown(desk, "a fifth at " + column, IllegalStateException.class, () -> desk.also(0, column));
        }
        for (int column : new int[] {0, 1, 3, 6}) {
            expect.idle(desk, "one is there at " + column, 4, () -> desk.also(0, column));
        }
        expect.thrown(desk, "no such column is told first", IndexOutOfBoundsException.class, () -> desk.also(0, 7));
        expect.same("they are", desk.cursors(), "0 1 3 6");
        expect.same("a sign at each", desk.key(25), 10);
        expect.same("all four go along", desk.cursors(), "1 3 6 10");
    }

    private static void marks() {
        Bracketdesk desk = Typist.desk("abcdef");
        for (int k = 0; k < 4; k++) {
            desk.at(0, k + 1);
            expect.same("mark " + k, desk.mark(k), -1);
        }
        for (int k = 0; k < 4; k++) {
            expect.same("jump " + k, desk.jump(k), k + 1);
        }
        for (int k : new int[] {-1, 4, Integer.MIN_VALUE, Integer.MAX_VALUE}) {
            expect.thrown(desk, "mark " + k, IllegalArgumentException.class, () -> desk.mark(k));
            expect.thrown(desk, "jump " + k, IllegalArgumentException.class, () -> desk.jump(k));
        }
    }

    /** The first 20 acts are played, no other. */
    private static void acts() {
        Bracketdesk desk = new Bracketdesk();
        desk.record(true);
        for (int i = 0; i < 19; i++) {
            desk.key(0);
        }
        expect.same("19 acts", desk.desk(14), 19);
        desk.key(1);
        expect.same("act 20", desk.desk(14), 20);
        desk.key(2);
        desk.go(6);
        expect.same("no act 21", desk.desk(14), 20);
        expect.same("not recorded any more", desk.record(false), 20);
        desk.go(7);
        expect.same("played", desk.play(1), 20);
        expect.same("the text", desk.all(), "a".repeat(19) + "bc" + "a".repeat(19) + "b");
        expect.same("three times", desk.play(3), 60);
        expect.same("its size", desk.desk(0), 101);
        expect.same("a new row of acts", desk.record(true), 0);
        expect.same("without acts", desk.record(false), 0);
        expect.same("nothing is played", desk.play(3), 0);
    }

    private static void playedUntilFull() {
        Bracketdesk desk = Typist.filled("", 497);
        desk.record(true);
        desk.go(1);
        desk.key(0);
        desk.erase();
        desk.key(1);
        desk.record(false);
        expect.same("two times fit", desk.play(3), 9);
        expect.same("it ended at a key, the go ahead of it counts", desk.desk(0), 500);
        expect.idle(desk, "now the go alone is done", 1, () -> desk.play(2));
    }

    private static void lastState() {
        Bracketdesk desk = Typist.desk("out 1;");
        Typist.makeStates(desk, 299);
        expect.same("299 states", desk.desk(11), 299);
        expect.same("the last one is taken", desk.key(36), 7);
        expect.same("300 states", desk.desk(11), 300);
        expect.refused(desk, "no more", () -> desk.key(36));
        Bracketdesk played = Typist.desk("out 1;");
        Typist.makeStates(played, 298);
        played.record(true);
        played.key(36);
        played.go(0);
        played.record(false);
        expect.same("two acts, and no third", played.play(3), 2);
        expect.same("300 states", played.desk(11), 300);
        expect.same("the text", played.all(), "out 1;  ");
        String[] changes = {"key 0", "say 3", "erase", "indent 0", "rename 3 1", "draw 5 1 true", "putIn 3", "turn 9",
            "prune", "refine 6"};
        for (String change : changes) {
            Caller caller = new Caller();
            caller.desk = Typist.desk(" /*\n*/ let a = (1);if a {} else {}let b = 1;");
            Typist.makeStates(caller.desk, 299);
            expect.same("299 states ahead of " + change, caller.desk.desk(11), 299);
            expect.same(change + " is taken", Integer.parseInt(caller.call(change)) >= 0, true);
            expect.same("300 states behind " + change, caller.desk.desk(11), 300);
        }
    }

    private static void noMoreStates() {
        Bracketdesk desk = Typist.desk(" a\n{\nb");
        Typist.makeStates(desk, 300);
        Typist.cursorsAt(desk, 0, 3);
        expect.refused(desk, "key", () -> desk.key(52));
        expect.refused(desk, "say", () -> desk.say(0));
        expect.refused(desk, "erase of one sign", desk::erase);
        expect.refused(desk, "indent", () -> desk.indent(1));
        desk.record(true);
        desk.erase();
        desk.key(0);
        expect.same("what is refused is not recorded", desk.record(false), 0);
        Typist.cursorsAt(desk, 0);
        expect.idle(desk, "erase of none", 0, desk::erase);
        expect.thrown(desk, "key 53", IllegalArgumentException.class, () -> desk.key(53));
        expect.thrown(desk, "say 36", IllegalArgumentException.class, () -> desk.say(36));
        expect.thrown(desk, "indent 5", IllegalArgumentException.class, () -> desk.indent(5));
        expect.same("go", desk.go(7), 1);
        expect.same("fold", desk.fold(0, 1), 1);
        int now = desk.desk(12);
        int before = desk.undo();
        expect.same("undo", before >= 0 && before < now, true);
        expect.same("redo", desk.redo(desk.desk(13) - 1), now);
        expect.same("300 states", desk.desk(11), 300);
    }

    private static Bracketdesk fullStates(String text) {
        Bracketdesk desk = Typist.desk(text);
        Typist.makeStates(desk, 300);
        return desk;
    }

    /** REFUSED, whatever else is. */
    private static void noMoreStatesForChanges() {
        Bracketdesk desk = fullStates("let a = (1);let b = 2;out a;out b;if a {} else {}let c = 3;out c;let d = 0 + 4;");
        expect.same("300 states", desk.desk(11), 300);
        expect.refused(desk, "rename", () -> desk.rename(1, 25));
        expect.refused(desk, "rename that would not keep", () -> desk.rename(1, 1));
        expect.refused(desk, "rename of what means nothing", () -> desk.rename(0, 1));
        expect.refused(desk, "draw", () -> desk.draw(3, 25, true));
        expect.refused(desk, "draw that would not keep", () -> desk.draw(13, 1, true));
        expect.refused(desk, "put in", () -> desk.putIn(25));
        expect.refused(desk, "turn", () -> desk.turn(18));
        expect.refused(desk, "prune", desk::prune);
        expect.refused(desk, "refine", () -> desk.refine(1));
        expect.thrown(desk, "rename 99", IndexOutOfBoundsException.class, () -> desk.rename(99, 1));
        expect.thrown(desk, "rename to 26", IllegalArgumentException.class, () -> desk.rename(1, 26));
        expect.thrown(desk, "draw to 26", IllegalArgumentException.class, () -> desk.draw(3, 26, true));
        expect.thrown(desk, "put in 99", IndexOutOfBoundsException.class, () -> desk.putIn(99));
        expect.thrown(desk, "turn 99", IndexOutOfBoundsException.class, () -> desk.turn(99));
        expect.thrown(desk, "refine 10", IllegalArgumentException.class, () -> desk.refine(10));
    }

    private static void noMoreStatesWhereNothingWouldChange() {
        Bracketdesk desk = fullStates("let a = 1;\nout a;");
        expect.idle(desk, "the same name", 0, () -> desk.rename(1, 0));
        expect.idle(desk, "no such shape", -1, () -> desk.refine(0));
        expect.idle(desk, "nothing to prune", 0, desk::prune);
        expect.idle(desk, "nothing to indent", 0, () -> desk.indent(2));
        Bracketdesk faults = fullStates("let a = 1;\nout b;");
        expect.refused(faults, "the same name, with faults", () -> faults.rename(1, 0));
        expect.refused(faults, "no such shape, with faults", () -> faults.refine(0));
    }
}
