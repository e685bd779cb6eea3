/** Promises 14 and 15, and the STATES: undo, redo, and what 300 STATES refuse. */
public final class HistoryTest {
    private static final Expect expect = new Expect("HistoryTest");

    public static void main(String[] args) {
        steps();
        branches();
        places();
        full();
        expect.end();
    }

    private static void steps() {
        Bracketdesk desk = new Bracketdesk();
        expect.refused(desk, "nothing to undo", desk::undo);
        expect.refused(desk, "nothing to redo", () -> desk.redo(0));
        expect.thrown(desk, "redo(-1)", IllegalArgumentException.class, () -> desk.redo(-1));
        desk.say(15);
        desk.say(6);
        desk.say(14);
        expect.same("undo", desk.undo(), 2);
        expect.same("the text before", desk.all(), "out 1");
        expect.same("the state", desk.desk(12), 2);
        expect.same("its children", desk.desk(13), 1);
        expect.same("no new state", desk.desk(11), 4);
        expect.same("undo", desk.undo(), 1);
        expect.same("undo", desk.undo(), 0);
        expect.same("empty", desk.all(), "");
        expect.same("redo", desk.redo(0), 1);
        expect.same("redo", desk.redo(0), 2);
        expect.refused(desk, "no second child", () -> desk.redo(1));
        expect.same("redo", desk.redo(0), 3);
        expect.same("it runs again", desk.run(), "1");
    }

    private static void branches() {
        Bracketdesk desk = new Bracketdesk();
        desk.key(0);
        for (int i = 1; i < 4; i++) {
            desk.key(i);
            expect.same("back to state 1", desk.undo(), 1);
        }
        expect.same("three children", desk.desk(13), 3);
        expect.same("the last one", desk.redo(2), 4);
        expect.same("its text", desk.all(), "ad");
        desk.undo();
        expect.same("the second one", desk.redo(1), 3);
        expect.same("its text", desk.all(), "ac");
        expect.same("a child of it", desk.key(25), 3);
        expect.same("its number", desk.desk(12), 5);
        expect.same("its parent", desk.undo(), 3);
    }

    /** One REPLACEMENT of the signs that differ. */
    private static void places() {
        Bracketdesk desk = Typist.desk("aa");
        desk.at(0, 1);
        desk.mark(0);
        desk.key(0);
        desk.at(0, 0);
        desk.also(0, 1);
        desk.also(0, 2);
        desk.also(0, 3);
        desk.undo();
        expect.same("the last of three alike goes", desk.cursors(), "0 1 2");
        desk.redo(0);
        expect.same("and comes, the cursor there behind it", desk.cursors(), "0 1 3");
        expect.same("the mark stayed", desk.jump(0), 1);
        Bracketdesk lines = Typist.desk("a\n/*\nb\n*/\nc");
        lines.drawn();
        lines.at(1, 2);
        lines.erase();
        lines.erase();
        expect.same("the comment is none", lines.ofLine(2, 2), 0);
        lines.drawn();
        lines.undo();
        expect.same("lines read again by undo: the new one", lines.desk(10), 1);
        lines.undo();
        expect.same("that and two behind", lines.desk(10), 3);
        expect.same("dirty", Typist.ofLines(lines, 5), "0 1 1 1 0");
        expect.same("all is sound", lines.isSound(), true);
    }

    private static void full() {
        Bracketdesk desk = Typist.desk("if (1) {let a = 0 + 1;} else {\nout 1;}");
        desk.at(1, 0);
        desk.record(true);
        for (int i = 0; i < 10; i++) {
            desk.key(0);
            desk.erase();
        }
        desk.record(false);
        while (desk.desk(11) <= 240) {
            desk.play(3);
        }
        while (desk.desk(11) < 298) {
            desk.play(1);
        }
        while (desk.desk(11) < 300) {
            desk.erase();
            desk.key(52);
        }
        expect.same("300 states", desk.desk(11), 300);
        expect.same("no faults", desk.desk(5), 0);
        expect.refused(desk, "key", () -> desk.key(0));
        expect.refused(desk, "say", () -> desk.say(0));
        expect.refused(desk, "erase", desk::erase);
        expect.refused(desk, "indent", () -> desk.indent(2));
        expect.refused(desk, "prune", desk::prune);
        expect.refused(desk, "refine", () -> desk.refine(1));
        expect.refused(desk, "turn", () -> desk.turn(0));
        expect.refused(desk, "rename", () -> desk.rename(6, 1));
        expect.idle(desk, "the same name", 2 - 2, () -> desk.rename(6, 0));
        expect.refused(desk, "draw", () -> desk.draw(2, 1, true));
        expect.idle(desk, "no such shape", -1, () -> desk.refine(9));
        expect.idle(desk, "nothing is played", 0, () -> desk.play(1));
        desk.go(6);
        expect.idle(desk, "nothing to erase", 0, desk::erase);
        expect.same("undo goes on", desk.undo(), 298);
        expect.refused(desk, "and makes no room", () -> desk.key(0));
        expect.same("redo goes on", desk.redo(0), 299);
    }
}
