/** Promises 16 to 19, 27, and how LINES are replaced: folds, indent, dirty LINES. */
public final class FoldsTest {
    private static final Expect expect = new Expect("FoldsTest");

    public static void main(String[] args) {
        folds();
        foldsMove();
        blocks();
        opening();
        indenting();
        indentEdges();
        dirtyLines();
        expect.end();
    }

    private static Bracketdesk lines(int count) {
        Bracketdesk desk = new Bracketdesk();
        for (int i = 1; i < count; i++) {
            desk.key(i % 26);
            desk.key(52);
        }
        return desk;
    }

    private static void folds() {
        Bracketdesk desk = lines(8);
        expect.same("fold", desk.fold(1, 3), 2);
        expect.same("in one another", desk.fold(0, 5), 5);
        expect.same("across", desk.fold(3, 6), 6);
        expect.same("instead of that from there", desk.fold(0, 2), 6);
        expect.same("hidden", Typist.ofLines(desk, 3), "0 1 1 1 1 1 1 0");
        expect.same("folds from", Typist.ofLines(desk, 4), "2 3 -1 6 -1 -1 -1 -1");
        expect.same("how many", desk.desk(7), 3);
        expect.same("hidden lines", desk.desk(8), 6);
        expect.thrown(desk, "no such line", IndexOutOfBoundsException.class, () -> desk.fold(8, 9));
        expect.thrown(desk, "no such later line", IndexOutOfBoundsException.class, () -> desk.fold(2, 8));
        expect.thrown(desk, "line -1", IndexOutOfBoundsException.class, () -> desk.fold(-1, 2));
        expect.thrown(desk, "to -1", IndexOutOfBoundsException.class, () -> desk.fold(1, -1));
        expect.thrown(desk, "the same line", IllegalArgumentException.class, () -> desk.fold(2, 2));
        expect.thrown(desk, "an earlier one", IllegalArgumentException.class, () -> desk.fold(3, 2));
    }

    private static void foldsMove() {
        Bracketdesk desk = lines(8);
        desk.fold(0, 1);
        desk.fold(2, 4);
        desk.fold(5, 7);
        desk.fold(6, 7);
        desk.at(3, 0);
        desk.key(52);
        expect.same("ahead it stays, behind it moves, around it opens",
            Typist.ofLines(desk, 4), "1 -1 -1 -1 -1 -1 8 8 -1");
        desk.at(7, 0);
        desk.key(0);
        expect.same("the first line of one is replaced", Typist.ofLines(desk, 4), "1 -1 -1 -1 -1 -1 -1 -1 -1");
        desk.fold(3, 5);
        desk.at(2, 0);
        desk.erase();
        expect.same("a line less", Typist.ofLines(desk, 4), "-1 -1 4 -1 -1 -1 -1 -1");
    }

    private static void blocks() {
        Bracketdesk desk = Typist.desk("if a {{}{\n{\n}\n}\n}{");
        expect.same("the last one whose partner is later", desk.foldBlock(0), 3);
        expect.same("one line", desk.foldBlock(1), 2);
        expect.same("hidden", desk.desk(8), 3);
        expect.refused(desk, "none opens here", () -> desk.foldBlock(2));
        expect.refused(desk, "without partner", () -> desk.foldBlock(4));
        desk.fold(0, 1);
        expect.same("instead of another", desk.foldBlock(0), 3);
        expect.same("two folds", desk.desk(7), 2);
        expect.thrown(desk, "line 5", IndexOutOfBoundsException.class, () -> desk.foldBlock(5));
        expect.thrown(desk, "line -1", IndexOutOfBoundsException.class, () -> desk.foldBlock(-1));
        Bracketdesk round = Typist.desk("(\n)");
        expect.refused(round, "no such bracket", () -> round.foldBlock(0));
    }

    private static void opening() {
        Bracketdesk desk = lines(6);
        desk.fold(0, 3);
        desk.fold(1, 2);
        desk.fold(2, 4);
        desk.fold(4, 5);
        expect.idle(desk, "nothing there", 0, () -> Typist.desk("a").open(0));
        expect.same("from it, or it is hidden in them", desk.open(2), 3);
        expect.same("one is left", Typist.ofLines(desk, 4), "-1 -1 -1 -1 5 -1");
        expect.same("the one from there", desk.open(4), 1);
        expect.idle(desk, "none left", 0, () -> desk.open(5));
        expect.thrown(desk, "line 6", IndexOutOfBoundsException.class, () -> desk.open(6));
        expect.thrown(desk, "line -1", IndexOutOfBoundsException.class, () -> desk.open(-1));
    }

    private static void indenting() {
        Bracketdesk desk = Typist.desk("if 1 {{\n out 1;\n   }\n} out 2;\n  \n{\n/*\n  c*/ }\n }");
        desk.at(8, 1);
        desk.mark(0);
        expect.same("lines that are others", desk.indent(3), 4);
        expect.same("blanks", Typist.ofLines(desk, 6), "0 6 3 0 0 0 3 2 0");
        expect.same("the text", desk.all(),
            "if 1 {{\n      out 1;\n   }\n} out 2;\n\n{\n   /*\n  c*/ }\n}");
        expect.idle(desk, "nothing is another", 0, () -> desk.indent(3));
        expect.same("none at all", desk.indent(0), 3);
        expect.same("undone at once", desk.undo() + 1, desk.desk(11) - 1);
        expect.same("as it was", desk.ofLine(1, 6), 6);
        expect.thrown(desk, "indent(5)", IllegalArgumentException.class, () -> desk.indent(5));
        expect.thrown(desk, "indent(-1)", IllegalArgumentException.class, () -> desk.indent(-1));
    }

    private static void indentEdges() {
        Bracketdesk open = Typist.desk("{(\n}\n}");
        expect.same("a bracket that is no partner", open.indent(2), 2);
        expect.same("the text", open.all(), "{(\n  }\n  }");
        Bracketdesk comment = Typist.desk("{\n/**/}\n{}\n}{\nout 1;");
        comment.indent(1);
        expect.same("a comment goes ahead of the bracket", Typist.ofLines(comment, 6), "0 1 0 0 1");
        Bracketdesk faults = Typist.desk("{{{{{{{{{{{{{{{{{{{{{{{{{{{{{{{{{{{{{{{{");
        for (int i = 0; i < 5; i++) {
            faults.key(52);
            faults.key(0);
        }
        expect.refused(faults, "it would be too long", () -> faults.indent(4));
        expect.same("it fits", faults.indent(1), 5);
        expect.same("its size", faults.desk(0), 250);
    }

    private static void dirtyLines() {
        Bracketdesk desk = Typist.desk("a\nb\nc\nd");
        expect.same("all were read", desk.drawn(), 4);
        expect.same("none is dirty", desk.desk(9), 0);
        expect.same("again", desk.drawn(), 0);
        desk.at(1, 0);
        desk.key(52);
        expect.same("a new empty line", Typist.ofLines(desk, 5), "0 1 0 0 0");
        expect.same("one was read", desk.desk(10), 1);
        desk.at(0, 1);
        desk.say(30);
        expect.same("the last line is in the comment", Typist.ofLines(desk, 2), "0 1 1 1 1");
        expect.same("all behind are read again", desk.desk(10), 5);
        desk.drawn();
        desk.at(3, 0);
        desk.say(31);
        expect.same("it ends where the state is as before", Typist.ofLines(desk, 5), "0 0 0 1 1");
        expect.same("two were read", desk.desk(10), 2);
        expect.refused(desk, "no second child", () -> desk.redo(1));
        expect.same("what changes nothing reads nothing", desk.desk(10), 2);
        desk.drawn();
        desk.at(0, 1);
        desk.also(2, 0);
        desk.key(0);
        expect.same("two lines, one of them twice", desk.desk(10), 2);
        desk.at(2, 0);
        desk.erase();
        expect.same("a line is taken away", Typist.ofLines(desk, 5), "1 1 0 0");
        Bracketdesk gone = Typist.desk("/*\na\nb");
        gone.at(0, 0);
        gone.key(52);
        gone.at(0, 0);
        gone.drawn();
        gone.go(1);
        gone.erase();
        expect.same("no line is new", gone.desk(10), 0);
    }
}
