/** Promises 28 to 32: LINES and WORDS as they are read. */
public final class WordsTest {
    private static final Expect expect = new Expect("WordsTest");

    public static void main(String[] args) {
        kinds();
        comments();
        values();
        partners();
        guesses();
        places();
        wrongInputs();
        expect.end();
    }

    private static void read(String text, String words, String kinds) {
        Bracketdesk desk = Typist.desk(text);
        expect.same("words of " + text, Typist.words(desk), words);
        expect.same("kinds of " + text, Typist.ofWords(desk, 0), kinds);
        expect.same("all of " + text, desk.all(), text);
    }

    private static void kinds() {
        read("let out if else do fun ret", "let out if else do fun ret", "1 1 1 1 1 1 1");
        read("lets le i f1 re doo", "lets le i f1 re doo", "0 0 0 0 0 0");
        read("1a2b 3", "1 a2b 3", "2 0 2");
        read("a===b", "a == = b", "0 6 6 0");
        read("{}(),;=+-*<!/?", "{ } ( ) , ; = + - * < ! / ?", "5 5 5 5 6 6 6 6 6 6 6 6 6 6");
        read("'a b'c'd", "'a b' c 'd", "3 0 3");
        read("'a\nb'", "'a b '", "3 0 3");
        read("'' '/*'", "'' '/*'", "3 3");
        read("  a  ", "a", "0");
        read("*/ / *", "* / / *", "6 6 6 6");
    }

    private static void comments() {
        read("a/*b*/c", "a /*b*/ c", "0 4 0");
        read("/*/a*/b", "/*/a*/ b", "4 0");
        read("/*a/*b*/c*/d", "/*a/*b*/c*/ d", "4 0");
        read("/*'*/'", "/*'*/ '", "4 3");
        read("/**//**/", "/**/ /**/", "4 4");
        Bracketdesk desk = Typist.desk("a/*b\n\n /* \n*/*/ c*/\n/*");
        expect.same("states", Typist.ofLines(desk, 2), "0 1 1 2 0");
        expect.same("words in lines", Typist.ofLines(desk, 1), "2 0 1 4 1");
        expect.same("words", Typist.words(desk), "a /*b  /*  */*/ c * / /*");
        expect.same("an open comment is a fault behind all words", Typist.faults(desk), "9@0 2@4 9@4 2@6 7@6 8@6 15@8");
        desk.at(4, 1);
        desk.erase();
        expect.same("closed", desk.ofLine(4, 2), 0);
    }

    private static void values() {
        Bracketdesk desk = Typist.desk("7 007 1234567 '' 'abc' a { 'x y");
        expect.same("values", Typist.ofWords(desk, 6), "7 7 234567 0 3 -1 -1 3");
        expect.same("a mark alone", Typist.desk("'").ofWord(0, 6), 0);
    }

    private static void partners() {
        Bracketdesk desk = Typist.desk("{(})}(/*)*/')')");
        expect.same("partners", Typist.ofWords(desk, 3), "4 3 -1 1 0 8 -1 -1 5");
        expect.same("none", Typist.ofWords(Typist.desk("({)}"), 3), "-1 3 -1 1");
    }

    private static void guesses() {
        Bracketdesk desk = Typist.desk("  {\n    a\n\n /**/\nb {} { (\n}");
        expect.same("guesses", Typist.ofWords(desk, 5), "3 -1 -1 -1 -1 -1 5 -1 -1");
        expect.same("no more lines", Typist.desk("{\n a").ofWord(0, 5), 2);
        expect.same("as many blanks", Typist.desk(" {\n a\nb").ofWord(0, 5), 1);
    }

    private static void places() {
        Bracketdesk desk = Typist.desk("let a = 1;\n  out a;\n");
        expect.same("lines of words", Typist.ofWords(desk, 1), "0 0 0 0 0 1 1 1");
        expect.same("columns", Typist.ofWords(desk, 2), "0 4 6 8 9 2 6 7");
        expect.same("things", Typist.ofWords(desk, 4), "-1 0 -1 -1 -1 -1 0 -1");
        expect.same("signs of lines", Typist.ofLines(desk, 0), "10 8 0");
        expect.same("words of lines", Typist.ofLines(desk, 1), "5 3 0");
        expect.same("blanks", Typist.ofLines(desk, 6), "0 2 0");
        expect.same("blanks alone", Typist.desk("   ").ofLine(0, 6), 3);
        expect.same("a line", desk.text(1), "  out a;");
        expect.same("an empty line", desk.text(2), "");
        expect.same("a word", desk.word(6), "a");
    }

    private static void wrongInputs() {
        Bracketdesk desk = Typist.desk("a\n(");
        for (int i : new int[] {-1, 2}) {
            expect.thrown(desk, "text " + i, IndexOutOfBoundsException.class, () -> desk.text(i));
            expect.thrown(desk, "word " + i, IndexOutOfBoundsException.class, () -> desk.word(i));
            expect.thrown(desk, "line " + i, IndexOutOfBoundsException.class, () -> desk.ofLine(i, 9));
            expect.thrown(desk, "of word " + i, IndexOutOfBoundsException.class, () -> desk.ofWord(i, 9));
        }
        for (int what : new int[] {-1, 7}) {
            expect.thrown(desk, "ofLine " + what, IllegalArgumentException.class, () -> desk.ofLine(1, what));
            expect.thrown(desk, "ofWord " + what, IllegalArgumentException.class, () -> desk.ofWord(1, what));
        }
    }
}
