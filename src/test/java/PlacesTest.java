/** Sections 1 and 7: REPLACEMENTS, and what goes along with them: CURSORS, MARKS, LINES, FOLDS; the tree of STATES. */
public final class PlacesTest {
    private static final Expect expect = new Expect("PlacesTest");

    public static void main(String[] args) {
        signsPutBetween();
        signsTakenAway();
        signsTakenAwayAtOnce();
        signsPutInstead();
        alikeSigns();
        severalReplacements();
        going();
        newLines();
        linesReadAgain();
        linesOfOtherStates();
        linesReadBySeveral();
        readByTheLastAct();
        foldsAtTheEdge();
        foldsOpened();
        states();
        expect.end();
    }

    private static void marksAt(Bracketdesk desk, int... places) {
        for (int k = 0; k < places.length; k++) {
            Typist.cursorsAt(desk, places[k]);
            desk.mark(k);
        }
    }

    private static String marks(Bracketdesk desk) {
        String was = desk.cursors();
        StringBuilder all = new StringBuilder();
        for (int k = 0; k < 4; k++) {
            all.append(k == 0 ? "" : " ").append(desk.jump(k));
        }
        String[] places = was.split(" ");
        int[] back = new int[places.length];
        for (int i = 0; i < back.length; i++) {
            back[i] = Integer.parseInt(places[i]);
        }
        Typist.cursorsAt(desk, back);
        return all.toString();
    }

    /** p = q: a CURSOR there comes behind what is put, a MARK there stays. */
    private static void signsPutBetween() {
        Bracketdesk desk = Typist.desk("abcd");
        marksAt(desk, 1, 2, 3, 4);
        Typist.cursorsAt(desk, 2);
        desk.say(32);
        expect.same("the cursor", desk.cursors(), "7");
        expect.same("the marks", marks(desk), "1 2 8 9");
        Typist.cursorsAt(desk, 0, 2, 7, 9);
        desk.undo();
        expect.same("the cursors back", desk.cursors(), "0 2 4");
        Typist.cursorsAt(desk, 0, 1, 2, 3);
        desk.redo(0);
        expect.same("those at it and behind it go along", desk.cursors(), "0 1 7 8");
        expect.same("the marks", marks(desk), "1 2 8 9");
    }

    private static void signsTakenAway() {
        Bracketdesk desk = Typist.desk("abcd");
        marksAt(desk, 1, 2, 3, 0);
        Typist.cursorsAt(desk, 2);
        desk.erase();
        expect.same("the cursor", desk.cursors(), "1");
        expect.same("the marks", marks(desk), "1 1 2 0");
    }

    /** p < q, nothing is put: all between go to p, as those at q do. */
    private static void signsTakenAwayAtOnce() {
        Bracketdesk desk = Typist.desk("abcd");
        Typist.cursorsAt(desk, 2);
        desk.say(32);
        marksAt(desk, 2, 4, 7, 8);
        Typist.cursorsAt(desk, 1, 2, 5, 8);
        desk.undo();
        expect.same("the cursors", desk.cursors(), "1 2 3");
        expect.same("the marks", marks(desk), "2 2 2 3");
    }

    /** p < q, and something is put: at q one goes as far as the TEXT behind. */
    private static void signsPutInstead() {
        Bracketdesk desk = Typist.desk("let abc=1;");
        marksAt(desk, 4, 5, 7, 8);
        Typist.cursorsAt(desk, 4, 6, 7, 10);
        expect.same("a shorter name", desk.rename(1, 25), 1);
        expect.same("the text", desk.all(), "let z=1;");
        expect.same("the cursors", desk.cursors(), "4 5 8");
        expect.same("the marks", marks(desk), "4 4 5 6");
        Typist.cursorsAt(desk, 3, 4, 5, 6);
        desk.undo();
        expect.same("longer again", desk.cursors(), "3 4 7 8");
        expect.same("the marks go behind", marks(desk), "4 4 7 8");
    }

    /** What is the same from the last on lies behind what is the same from the first on: no SIGN twice. */
    private static void alikeSigns() {
        Bracketdesk desk = Typist.desk("aa");
        Typist.cursorsAt(desk, 0);
        desk.key(0);
        Typist.cursorsAt(desk, 2);
        desk.undo();
        expect.same("the last one of three went", desk.cursors(), "2");
        desk.redo(0);
        expect.same("it came ahead of the cursor", desk.cursors(), "3");
        Bracketdesk more = Typist.desk("abab");
        Typist.cursorsAt(more, 2);
        more.key(0);
        more.undo();
        Typist.cursorsAt(more, 2);
        more.key(1);
        marksAt(more, 0, 2, 3, 4);
        more.undo();
        expect.same("the text", more.all(), "abab");
        expect.same("b went behind ab", marks(more), "0 2 2 3");
    }

    /** From the last CURSOR to the first one, each by its own REPLACEMENT. */
    private static void severalReplacements() {
        Bracketdesk desk = Typist.desk("abcd");
        marksAt(desk, 1, 2, 3, 4);
        Typist.cursorsAt(desk, 0, 2, 3, 4);
        expect.same("typed at four", desk.key(25), 8);
        expect.same("the text", desk.all(), "zabzczdz");
        expect.same("the cursors", desk.cursors(), "1 4 6 8");
        expect.same("the marks", marks(desk), "2 3 5 7");
        expect.same("erased at four", desk.erase(), 4);
        expect.same("as before", desk.all() + " " + desk.cursors(), "abcd 0 2 3 4");
        expect.same("the marks, too", marks(desk), "1 2 3 4");
        Typist.cursorsAt(desk, 0, 1, 2, 3);
        expect.same("the first one has no sign ahead", desk.erase(), 3);
        expect.same("the text", desk.all(), "d");
        expect.same("they met at place 0", desk.cursors(), "0");
        expect.same("the marks, too", marks(desk), "0 0 0 1");
        desk.go(7);
        desk.also(0, 0);
        expect.same("one of two has a sign ahead", desk.erase(), 1);
        expect.same("nothing is left", desk.all() + desk.cursors() + marks(desk), "00 0 0 0");
    }

    private static void goes(Bracketdesk desk, int where, String from, String to) {
        String[] places = from.split(" ");
        int[] starts = new int[places.length];
        for (int i = 0; i < starts.length; i++) {
            starts[i] = Integer.parseInt(places[i]);
        }
        Typist.cursorsAt(desk, starts);
        expect.same("go " + where + " answers", desk.go(where), to.split(" ").length);
        expect.same("go " + where + " from " + from, desk.cursors(), to);
    }

    private static void going() {
        Bracketdesk desk = Typist.desk("abc\n\nde\nfghi");
        goes(desk, 0, "0 1 2", "0 1");
        goes(desk, 0, "4 5 12", "3 4 11");
        goes(desk, 1, "3 11 12", "4 12");
        goes(desk, 1, "0 4 5", "1 5 6");
        goes(desk, 2, "0 1 3", "0");
        goes(desk, 2, "4 5 7 12", "0 4 7");
        goes(desk, 2, "8 9 10 11", "5 6 7");
        goes(desk, 3, "0 2 3", "4");
        goes(desk, 3, "4 5 6 7", "5 8 9 10");
        goes(desk, 3, "8 10 12", "12");
        goes(desk, 4, "0 3 4", "0 4");
        goes(desk, 4, "5 7 8 12", "5 8");
        goes(desk, 5, "0 3 4 5", "3 4 7");
        goes(desk, 5, "7 8 12", "7 12");
        goes(desk, 6, "0 5 12", "0");
        goes(desk, 7, "0 5 12", "12");
    }

    private static void read(Bracketdesk desk, String what, int lines, String dirty) {
        expect.same(what + " reads again", desk.desk(10), lines);
        expect.same(what + " makes dirty", Typist.ofLines(desk, 5), dirty);
        int count = 0;
        for (String one : dirty.split(" ")) {
            count += one.equals("1") ? 1 : 0;
        }
        expect.same(what + ", dirty lines", desk.desk(9), count);
        expect.same(what + ", drawn", desk.drawn(), count);
        expect.same("none is dirty then", desk.desk(9) + desk.drawn(), 0);
    }

    /** LINES that are the same from the first on, then of the others those from the last on. */
    private static void newLines() {
        Bracketdesk desk = Typist.desk("a\nb\na\nb");
        desk.drawn();
        Typist.cursorsAt(desk, 3);
        desk.key(52);
        read(desk, "an empty line between", 1, "0 0 1 0 0");
        desk.undo();
        read(desk, "a line less", 0, "0 0 0 0");
        Typist.cursorsAt(desk, 7);
        desk.key(52);
        desk.key(1);
        desk.drawn();
        desk.undo();
        read(desk, "the last line is another", 1, "0 0 0 0 1");
        desk.undo();
        read(desk, "the last line is none", 0, "0 0 0 0");
        Typist.cursorsAt(desk, 2);
        desk.erase();
        read(desk, "two lines are one", 1, "1 0 0");
        expect.same("the text", desk.all(), "ab\na\nb");
        desk.undo();
        read(desk, "one line is two", 2, "1 1 0 0");
        Bracketdesk alike = new Bracketdesk();
        alike.key(52);
        alike.drawn();
        alike.key(52);
        read(alike, "none twice: the last one is new", 1, "0 0 1");
        alike.at(0, 0);
        alike.key(52);
        read(alike, "it is the last one wherever it is typed", 1, "0 0 0 1");
    }

    private static void linesReadAgain() {
        Bracketdesk desk = Typist.desk("a\nb\nc");
        expect.same("typed lines are dirty", Typist.ofLines(desk, 5), "1 1 1");
        desk.drawn();
        desk.at(1, 1);
        desk.key(0);
        desk.at(0, 0);
        desk.key(52);
        read(desk, "one line, and one that moved along dirty", 1, "1 0 1 0");
        desk.at(1, 1);
        desk.key(36);
        desk.drawn();
        expect.same("as many signs, others", desk.rename(0, 0), -9);
        Bracketdesk named = Typist.desk("let a=1;\nlet c=2;\nout a;");
        named.drawn();
        named.rename(1, 1);
        read(named, "lines of as many signs", 3, "1 1 1");
        named.undo();
        read(named, "undone", 3, "1 1 1");
        named.rename(6, 3);
        read(named, "one line of as many signs", 1, "0 1 0");
    }

    /** Behind what was replaced, as long as they begin in another STATE than before. */
    private static void linesOfOtherStates() {
        Bracketdesk desk = Typist.desk("a\nb\n*/\nd");
        desk.drawn();
        Typist.cursorsAt(desk, 1);
        desk.say(30);
        expect.same("states", Typist.ofLines(desk, 2), "0 1 1 0");
        read(desk, "up to where the comment ends", 3, "1 1 1 0");
        Typist.cursorsAt(desk, 3);
        desk.say(30);
        expect.same("states", Typist.ofLines(desk, 2), "0 2 2 1");
        read(desk, "all behind", 4, "1 1 1 1");
        desk.undo();
        read(desk, "and back", 4, "1 1 1 1");
        Bracketdesk line = Typist.desk("a\n\n/*\nb\n*/\nc");
        line.drawn();
        Typist.cursorsAt(line, 5);
        line.key(52);
        line.drawn();
        line.undo();
        read(line, "no line is new, and the same states", 0, "0 0 0 0 0 0");
        Bracketdesk gone = Typist.desk("/*\n/*\nb\nc");
        gone.drawn();
        Typist.cursorsAt(gone, 0, 1, 2, 3);
        expect.same("a line goes", gone.erase(), 3);
        expect.same("the text", gone.all(), "/*\nb\nc");
        expect.same("states", Typist.ofLines(gone, 2), "0 1 1");
        gone.drawn();
        gone.undo();
        expect.same("states", Typist.ofLines(gone, 2), "0 1 2 2");
        read(gone, "a line is new, and two behind", 3, "0 1 1 1");
        gone.redo(0);
        read(gone, "no line is new: those behind begin in another state", 2, "0 1 1");
    }

    /** REPLACEMENT by REPLACEMENT, summed. */
    private static void linesReadBySeveral() {
        Bracketdesk desk = Typist.desk("a\nb\nc");
        desk.drawn();
        Typist.cursorsAt(desk, 0, 2, 4);
        desk.key(0);
        read(desk, "three lines", 3, "1 1 1");
        Typist.cursorsAt(desk, 0, 1, 2);
        desk.key(0);
        read(desk, "one line three times", 3, "1 0 0");
        Typist.cursorsAt(desk, 0, 1);
        desk.key(52);
        read(desk, "two lines, then one", 3, "1 1 1 0 0");
        Typist.cursorsAt(desk, 0, 11);
        desk.say(30);
        expect.same("states", Typist.ofLines(desk, 2), "0 1 1 1 1");
        read(desk, "the last one, then all", 6, "1 1 1 1 1");
    }

    private static void readByTheLastAct() {
        Bracketdesk desk = Typist.desk("a\nb\nc");
        expect.same("by the last key", desk.desk(10), 1);
        desk.record(true);
        Typist.cursorsAt(desk, 0, 2, 4);
        desk.key(0);
        expect.same("three", desk.desk(10), 3);
        desk.go(6);
        desk.erase();
        expect.same("what erases nothing, or goes, is no change", desk.desk(10), 3);
        desk.record(false);
        Typist.cursorsAt(desk, 0, 3, 6);
        expect.same("played", desk.play(1), 3);
        expect.same("by the act that changed", desk.desk(10), 3);
        expect.same("played twice", desk.play(2), 6);
        expect.same("by the last act that changed, at one cursor", desk.desk(10), 1);
        desk.leap();
        desk.fold(0, 1);
        desk.indent(0);
        expect.same("by no other call", desk.desk(10), 1);
        expect.same("nothing was read at first", new Bracketdesk().desk(10), 0);
    }

    private static Bracketdesk folded() {
        Bracketdesk desk = Typist.desk("a\nb\nc\nd\ne\nf");
        desk.fold(0, 1);
        desk.fold(1, 2);
        desk.fold(2, 3);
        desk.fold(3, 4);
        desk.fold(4, 5);
        return desk;
    }

    /** x LINES are kept ahead, y old LINES stood ahead of those that are kept behind. */
    private static void foldsAtTheEdge() {
        Bracketdesk desk = folded();
        desk.at(2, 0);
        desk.key(0);
        expect.same("one line replaced: x is 2, y is 3", Typist.ofLines(desk, 4), "1 -1 -1 4 5 -1");
        desk = folded();
        desk.at(2, 0);
        desk.key(52);
        expect.same("a line put: x and y are 2", Typist.ofLines(desk, 4), "1 -1 -1 4 5 6 -1");
        desk = folded();
        desk.at(2, 1);
        desk.key(52);
        expect.same("a line put behind: x and y are 3", Typist.ofLines(desk, 4), "1 2 -1 -1 5 6 -1");
        desk = folded();
        desk.at(3, 0);
        desk.erase();
        expect.same("two are one: x is 2, y is 4", Typist.ofLines(desk, 4), "1 -1 -1 4 -1");
        desk = folded();
        desk.at(0, 1);
        desk.erase();
        desk.also(5, 1);
        expect.same("the first line: y is 1", Typist.ofLines(desk, 4), "-1 2 3 4 5 -1");
        desk.at(5, 0);
        desk.key(0);
        expect.same("the last line: x is 5", Typist.ofLines(desk, 4), "-1 2 3 4 -1 -1");
        expect.same("folds", desk.desk(7) + " hidden " + desk.desk(8), "3 hidden 3");
    }

    private static void foldsOpened() {
        Bracketdesk desk = folded();
        expect.same("from it, and where it is hidden", desk.open(0), 1);
        expect.same("the last line", desk.open(5), 1);
        expect.same("two of one line", desk.open(2), 2);
        expect.same("one is left", Typist.ofLines(desk, 4), "-1 -1 -1 4 -1 -1");
        expect.idle(desk, "none here", 0, () -> desk.open(5));
        expect.same("another one from there", desk.fold(3, 5), 2);
        expect.same("one more", desk.fold(0, 5), 5);
        expect.same("its later line", desk.ofLine(0, 4) + " " + desk.ofLine(3, 4), "5 5");
        expect.same("two folds", desk.desk(7), 2);
        expect.same("hidden", Typist.ofLines(desk, 3), "0 1 1 1 1 1");
        expect.same("both", desk.open(4), 2);
        expect.same("none is hidden", desk.desk(7) + desk.desk(8), 0);
    }

    private static void states() {
        Bracketdesk desk = new Bracketdesk();
        desk.key(0);
        desk.undo();
        desk.key(0);
        expect.same("the same text again is another state", desk.desk(11) + " " + desk.desk(12), "3 2");
        desk.undo();
        expect.same("two children", desk.desk(13), 2);
        expect.same("the first", desk.redo(0) + desk.all(), "1a");
        expect.same("without children", desk.desk(13), 0);
        desk.key(1);
        desk.record(true);
        desk.key(2);
        desk.key(3);
        desk.record(false);
        int before = desk.desk(12);
        desk.play(1);
        expect.same("each act of play by itself", desk.desk(12), before + 2);
        expect.same("undone by itself", desk.undo() + desk.all(), (before + 1) + "abcdc");
        expect.same("the call that changes nothing", desk.indent(0) + " " + desk.desk(11), "0 " + (before + 3));
        expect.same("sound", desk.isSound(), true);
    }
}
