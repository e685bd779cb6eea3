/** Promises 1 to 13: a new object, typing, cursors, marks and recorded acts. */
public final class TypingTest {
    private static final Expect expect = new Expect("TypingTest");

    public static void main(String[] args) {
        newObject();
        signs();
        pieces();
        limits();
        severalCursors();
        erasing();
        going();
        cursorsByLine();
        leaping();
        recording();
        marks();
        expect.end();
    }

    private static void newObject() {
        Bracketdesk desk = new Bracketdesk();
        expect.same("new text", desk.all(), "");
        int[] numbers = {0, 1, 0, 1, 0, 0, 1, 0, 0, 0, 0, 1, 0, 0, 0, 0};
        for (int i = 0; i < numbers.length; i++) {
            expect.same("new desk(" + i + ")", desk.desk(i), numbers[i]);
        }
        for (int i = 0; i < 4; i++) {
            expect.same("new mark " + i, desk.jump(i), -1);
        }
    }

    private static void signs() {
        Bracketdesk desk = new Bracketdesk();
        for (int i = 0; i <= 52; i++) {
            expect.same("key(" + i + ")", desk.key(i), i + 1);
        }
        expect.same("all signs", desk.all(), Typist.SIGNS);
        expect.thrown(desk, "key(53)", IllegalArgumentException.class, () -> desk.key(53));
        expect.thrown(desk, "key(-1)", IllegalArgumentException.class, () -> desk.key(-1));
    }

    private static void pieces() {
        for (int i = 0; i < Typist.PIECES.length; i++) {
            Bracketdesk desk = new Bracketdesk();
            expect.same("say(" + i + ")", desk.say(i), Typist.PIECES[i].length());
            expect.same("piece " + i, desk.all(), Typist.PIECES[i]);
            expect.same("one state a piece", desk.desk(11), 2);
        }
        Bracketdesk desk = new Bracketdesk();
        expect.thrown(desk, "say(36)", IllegalArgumentException.class, () -> desk.say(36));
        expect.thrown(desk, "say(-1)", IllegalArgumentException.class, () -> desk.say(-1));
    }

    private static void limits() {
        Bracketdesk desk = new Bracketdesk();
        for (int i = 0; i < 38; i++) {
            desk.say(21);
        }
        Typist.write(desk, "a + b");
        expect.same("499 signs", desk.desk(0), 499);
        expect.refused(desk, "two signs more", () -> desk.say(30));
        expect.same("sign 500", desk.key(0), 500);
        expect.refused(desk, "sign 501", () -> desk.key(0));
        expect.refused(desk, "a line end as sign 501", () -> desk.key(52));
        expect.thrown(desk, "an exception goes ahead", IllegalArgumentException.class, () -> desk.key(99));

        Bracketdesk lines = new Bracketdesk();
        for (int i = 0; i < 38; i++) {
            lines.key(52);
        }
        lines.also(0, 0);
        expect.refused(lines, "two line ends where one is left", () -> lines.key(52));
        expect.same("other signs may come", lines.key(0), 40);
        lines.lone();
        expect.same("line end 39", lines.key(52), 41);
        expect.same("40 lines", lines.desk(1), 40);
        expect.refused(lines, "line end 40", () -> lines.key(52));
    }

    private static void severalCursors() {
        Bracketdesk desk = Typist.desk("abcabc");
        desk.at(0, 1);
        desk.also(0, 4);
        desk.also(0, 6);
        expect.same("typed at three", desk.say(30), 12);
        expect.same("the text", desk.all(), "a/*bca/*bc/*");
        expect.same("each behind what was typed", desk.cursors(), "3 8 12");
        expect.same("one state", desk.desk(11), 8);
        desk.at(0, 3);
        desk.mark(0);
        desk.at(0, 4);
        desk.mark(1);
        desk.at(0, 3);
        desk.key(25);
        expect.same("the cursor goes along", desk.cursors(), "4");
        expect.same("a mark where it is put stays", desk.jump(0), 3);
        expect.same("a mark behind goes along", desk.jump(1), 5);
    }

    private static void erasing() {
        Bracketdesk desk = Typist.desk("abcdef");
        desk.at(0, 0);
        expect.idle(desk, "nothing ahead", 0, desk::erase);
        desk.also(0, 1);
        desk.also(0, 3);
        desk.also(0, 4);
        expect.same("three signs went", desk.erase(), 3);
        expect.same("what is left", desk.all(), "bef");
        expect.same("cursors that met are one", desk.cursors(), "0 1");
        desk.at(0, 2);
        desk.mark(2);
        desk.at(0, 1);
        desk.mark(3);
        desk.at(0, 2);
        desk.erase();
        expect.same("a mark at the end of what went", desk.jump(2), 1);
        expect.same("a mark at its begin", desk.jump(3), 1);
        Bracketdesk lines = Typist.desk("a\nb");
        lines.at(1, 0);
        lines.erase();
        expect.same("a line end is taken away", lines.all(), "ab");
        expect.same("one line", lines.desk(1), 1);
    }

    private static void going() {
        Bracketdesk desk = Typist.desk("abcd\nx\nuvwxyz");
        int[] places = {12, 13, 6, 13, 7, 13, 0, 13};
        for (int where = 0; where < 8; where++) {
            desk.go(7);
            expect.same("go(" + where + ")", desk.go(where), 1);
            expect.same("go(" + where + ") from the end", desk.cursors(), "" + places[where]);
        }
        desk.at(0, 3);
        expect.same("up in the first line", desk.go(2) + " " + desk.cursors(), "1 0");
        desk.at(0, 3);
        desk.go(3);
        expect.same("down to a shorter line", desk.cursors(), "6");
        desk.go(3);
        expect.same("down from column 1", desk.cursors(), "8");
        desk.go(6);
        desk.go(0);
        expect.same("not ahead of 0", desk.cursors(), "0");
        desk.at(0, 2);
        desk.also(0, 4);
        desk.also(1, 1);
        expect.same("down with three", desk.go(3), 2);
        expect.same("two met", desk.cursors(), "6 8");
        expect.same("all to the begin", desk.go(6), 1);
        expect.thrown(desk, "go(8)", IllegalArgumentException.class, () -> desk.go(8));
        expect.thrown(desk, "go(-1)", IllegalArgumentException.class, () -> desk.go(-1));
    }

    private static void cursorsByLine() {
        Bracketdesk desk = Typist.desk("ab\ncd");
        expect.same("at", desk.at(1, 1), 4);
        expect.same("at the end of a line", desk.at(0, 2), 2);
        expect.thrown(desk, "no such line", IndexOutOfBoundsException.class, () -> desk.at(2, 0));
        expect.thrown(desk, "line -1", IndexOutOfBoundsException.class, () -> desk.at(-1, 0));
        expect.thrown(desk, "no such column", IndexOutOfBoundsException.class, () -> desk.at(0, 3));
        expect.thrown(desk, "column -1", IndexOutOfBoundsException.class, () -> desk.at(0, -1));
        expect.thrown(desk, "also there", IndexOutOfBoundsException.class, () -> desk.also(1, 3));
        expect.same("also ahead", desk.also(0, 0), 2);
        expect.same("also the same", desk.also(0, 0), 2);
        expect.same("also a third", desk.also(1, 2), 3);
        expect.same("also a fourth", desk.also(1, 0), 4);
        expect.same("by rising places", desk.cursors(), "0 2 3 5");
        expect.same("there is one", desk.also(0, 2), 4);
        expect.thrown(desk, "a fifth", IllegalStateException.class, () -> desk.also(0, 1));
        expect.thrown(desk, "a fifth, nowhere", IndexOutOfBoundsException.class, () -> desk.also(0, 9));
        expect.same("lone", desk.lone(), 3);
        expect.same("the first stays", desk.cursors(), "0");
        expect.same("lone again", desk.lone(), 0);
    }

    private static void leaping() {
        Bracketdesk desk = Typist.desk("{a(b)}'('/*)*/)");
        desk.at(0, 0);
        desk.also(0, 3);
        expect.same("to the partner", desk.leap(), 5);
        expect.same("the only one", desk.cursors(), "5");
        expect.same("and back", desk.leap(), 0);
        for (int column : new int[] {1, 7, 11, 14, 15}) {
            desk.at(0, column);
            expect.idle(desk, "no leap from " + column, -1, desk::leap);
        }
    }

    private static void recording() {
        Bracketdesk desk = new Bracketdesk();
        expect.same("nothing yet", desk.record(true), 0);
        desk.key(0);
        desk.say(9);
        desk.go(6);
        desk.erase();
        desk.at(0, 0);
        expect.thrown(desk, "wrong acts are not recorded", IllegalArgumentException.class, () -> desk.key(77));
        expect.thrown(desk, "play while recording", IllegalStateException.class, () -> desk.play(1));
        expect.thrown(desk, "play(0) while recording", IllegalArgumentException.class, () -> desk.play(0));
        expect.same("four acts", desk.record(false), 4);
        expect.same("kept", desk.record(false), 4);
        desk.key(1);
        expect.same("no more", desk.desk(14), 4);
        expect.thrown(desk, "play(4)", IllegalArgumentException.class, () -> desk.play(4));
        expect.same("played twice", desk.play(2), 8);
        expect.same("the text", desk.all(), "a + ba + a + ");
        expect.same("a state for each act that changes", desk.desk(11), 8);
        expect.same("begun anew", desk.record(true), 0);
        for (int i = 0; i < 25; i++) {
            desk.go(1);
        }
        expect.same("the first 20", desk.record(false), 20);
        Bracketdesk full = new Bracketdesk();
        full.record(true);
        for (int i = 0; i < 20; i++) {
            full.say(21);
        }
        full.record(false);
        expect.same("until one is refused", full.play(1), 18);
        expect.same("38 pieces", full.desk(0), 494);
        expect.same("refused at once", full.play(3), 0);
        full.record(true);
        full.say(21);
        expect.same("what is refused is not recorded", full.record(false), 0);
        expect.same("nothing to play", full.play(3), 0);
    }

    private static void marks() {
        Bracketdesk desk = Typist.desk("abc");
        desk.at(0, 1);
        desk.also(0, 2);
        expect.same("no mark yet", desk.mark(3), -1);
        expect.same("at the first cursor", desk.mark(3), 1);
        desk.go(7);
        expect.same("before", desk.mark(3), 1);
        desk.go(6);
        desk.also(0, 1);
        expect.same("jump", desk.jump(3), 3);
        expect.same("just one", desk.cursors(), "3");
        expect.idle(desk, "without", -1, () -> desk.jump(0));
        for (int k : new int[] {-1, 4}) {
            expect.thrown(desk, "mark " + k, IllegalArgumentException.class, () -> desk.mark(k));
            expect.thrown(desk, "jump " + k, IllegalArgumentException.class, () -> desk.jump(k));
        }
    }
}
