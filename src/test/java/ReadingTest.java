/** Sections 2 to 4 and promises 28 to 38 at their edges: WORDS, NODES, NAMES, FAULTS, and names that could stand. */
public final class ReadingTest {
    private static final Expect expect = new Expect("ReadingTest");

    public static void main(String[] args) {
        namesAndKeywords();
        signs();
        comments();
        commentsOverLines();
        texts();
        linesWithoutWords();
        partners();
        guesses();
        nodesWithoutWords();
        needsAtTheEnd();
        letsThatEnd();
        scopes();
        faultsOfNames();
        orderOfFaults();
        thingsAtTheEdge();
        letters();
        endsOfLets();
        endsOfBlocks();
        blocksThatCameAndWent();
        expect.end();
    }

    private static void read(String text, String words, String kinds) {
        Bracketdesk desk = Typist.desk(text);
        expect.same("words of " + text, Typist.words(desk), words);
        expect.same("kinds of " + text, Typist.ofWords(desk, 0), kinds);
    }

    private static void namesAndKeywords() {
        read("let out if else do fun ret", "let out if else do fun ret", "1 1 1 1 1 1 1");
        read("alet aout aif aelse ado afun aret", "alet aout aif aelse ado afun aret", "0 0 0 0 0 0 0");
        read("leta outa ifa elsea doa funa reta", "leta outa ifa elsea doa funa reta", "0 0 0 0 0 0 0");
        read("let1 out0 if9 else5 do1 fun2 ret3", "let1 out0 if9 else5 do1 fun2 ret3", "0 0 0 0 0 0 0");
        read("abcdelse ifelse elseelse", "abcdelse ifelse elseelse", "0 0 0");
        read("l le els e f re d o i", "l le els e f re d o i", "0 0 0 0 0 0 0 0 0");
        read("a0 z9 az 0a 9z 09", "a0 z9 az 0 a 9 z 09", "0 0 0 2 0 2 0 2");
        read("1let", "1 let", "2 1");
        read("a".repeat(90), "a".repeat(90), "0");
        read("7".repeat(90), "7".repeat(90), "2");
    }

    private static void signs() {
        read("=", "=", "6");
        read("==", "==", "6");
        read("===", "== =", "6 6");
        read("====", "== ==", "6 6");
        read("= =", "= =", "6 6");
        read("=\n=", "= =", "6 6");
        read("<= !=", "< = ! =", "6 6 6 6");
        read("? / * , ;", "? / * , ;", "6 6 6 6 6");
        read("// **", "/ / * *", "6 6 6 6");
        read("/ *", "/ *", "6 6");
        read("/\n*", "/ *", "6 6");
    }

    /** Two SIGNS together, none is taken for two such. */
    private static void comments() {
        read("/**/a", "/**/ a", "4 0");
        read("/*/a", "/*/a", "4");
        read("/***/a", "/***/ a", "4 0");
        read("/*/*/a", "/*/*/a", "4");
        read("/*/**/*/a", "/*/**/*/ a", "4 0");
        read("/**/*/a", "/**/ * / a", "4 6 6 0");
        read("/*a*/b/*c*/d", "/*a*/ b /*c*/ d", "4 0 4 0");
        read("*/a/*", "* / a /*", "6 6 0 4");
        read("/* ' */'", "/* ' */ '", "4 3");
        read("//**/", "/ /**/", "6 4");
    }

    private static void commentsOverLines() {
        Bracketdesk desk = Typist.desk("/*/*\n*/\n \n\n*/a/*\n/\n*\n*/*/");
        expect.same("states", Typist.ofLines(desk, 2), "0 2 1 1 1 1 1 1");
        expect.same("words in lines", Typist.ofLines(desk, 1), "1 1 1 0 3 1 1 3");
        expect.same("kinds", Typist.ofWords(desk, 0), "4 4 4 4 0 4 4 4 4 6 6");
        expect.same("blanks ahead", Typist.ofLines(desk, 6), "0 0 1 0 0 0 0 0");
        expect.same("no fault of the comment", Typist.faults(desk), "9@4 2@10 7@10 8@10");
        Bracketdesk open = Typist.desk("out 1;/*\n\n");
        expect.same("the last line ends in it", Typist.faults(open), "15@4");
        open.say(31);
        expect.same("no more", Typist.faults(open), "");
        Bracketdesk deep = Typist.desk("/*".repeat(40) + "\n" + "*/".repeat(39));
        expect.same("in 40 comments", deep.ofLine(1, 2), 40);
        expect.same("in one still", Typist.faults(deep), "15@2");
    }

    private static void texts() {
        read("''", "''", "3");
        read("'", "'", "3");
        read("'''", "'' '", "3 3");
        read("''''", "'' ''", "3 3");
        read("'a\n'b'", "'a 'b'", "3 3");
        read("a'b'c", "a 'b' c", "0 3 0");
        expect.same("values", Typist.ofWords(Typist.desk("'' ' ' 'abc'\n'\n'a"), 6), "0 1 3 0 1");
        expect.same("open ones", Typist.faults(Typist.desk("out '';out ';\n;out 'a\n;out 'b';")), "14@4 14@7");
    }

    private static void linesWithoutWords() {
        Bracketdesk desk = Typist.desk("\n  \na\n");
        expect.same("words", Typist.ofLines(desk, 1), "0 0 1 0");
        expect.same("signs", Typist.ofLines(desk, 0), "0 2 1 0");
        expect.same("blanks", Typist.ofLines(desk, 6), "0 2 0 0");
        expect.same("texts", desk.text(0) + "," + desk.text(1) + "," + desk.text(2) + "," + desk.text(3), ",  ,a,");
        expect.same("the line of the word", desk.ofWord(0, 1) + " " + desk.ofWord(0, 2), "2 0");
    }

    private static void partners() {
        String[] texts = {"()", "{}", "(}", "{)", ")(", "((", "))", "({})", "({)}", "(})", "{(}", "(())()", "({(})"};
        String[] wants = {"1 0", "1 0", "-1 -1", "-1 -1", "-1 -1", "-1 -1", "-1 -1", "3 2 1 0", "-1 3 -1 1",
            "2 -1 0", "-1 -1 -1", "3 2 1 0 5 4", "-1 -1 4 -1 2"};
        for (int i = 0; i < texts.length; i++) {
            expect.same("partners of " + texts[i], Typist.ofWords(Typist.desk(texts[i]), 3), wants[i]);
        }
    }

    private static void guess(String text, int guess) {
        Bracketdesk desk = Typist.desk(text);
        for (int word = 0; word < desk.desk(2); word++) {
            if (desk.word(word).equals("{")) {
                expect.same("guess in " + text, desk.ofWord(word, 5), guess);
                return;
            }
        }
    }

    private static void guesses() {
        guess("{", 1);
        guess("{a", 1);
        guess("{\n", 2);
        guess("{\na", 1);
        guess("{\n a", 2);
        guess(" {\n  a\n a", 2);
        guess(" {\n  a\na", 2);
        guess("a {\n a\n  b", 3);
        guess("{\n\n\na", 3);
        guess(" {\n \n\n /**/", 3);
        guess(" {/*\n\n  a\n b", 3);
        guess("  {\na\n}", -1);
        guess(" {\n(\n}", 1);
        guess("   {\n    }", -1);
    }

    private static void nodesWithoutWords() {
        Bracketdesk desk = Typist.desk("if /*c*/");
        expect.same("kinds", Typist.ofNodes(desk, 0), "0 4 18 8");
        expect.same("they would begin behind all words", Typist.ofNodes(desk, 2), "0 0 2 2");
        expect.same("words", Typist.ofNodes(desk, 3), "1 1 0 0");
        expect.same("nodes", Typist.ofNodes(desk, 4), "1 2 0 0");
        expect.same("faults", Typist.faults(desk), "3@2 7@2");
        Bracketdesk next = Typist.desk("do /*c*/ ;");
        expect.same("they would begin at the next word", Typist.ofNodes(next, 2), "0 0 2 2 2");
        expect.same("kinds", Typist.ofNodes(next, 0), "0 5 18 8 10");
        Bracketdesk none = Typist.desk("/*a*//*b*/");
        expect.same("a program without words", Typist.ofNodes(none, 2) + Typist.ofNodes(none, 3), "20");
        Bracketdesk both = Typist.desk("let a = +;");
        expect.same("kinds", Typist.ofNodes(both, 0), "0 1 11 18 18");
        expect.same("of two that are missing", Typist.ofNodes(both, 2), "0 0 3 3 4");
        expect.same("words", Typist.ofNodes(both, 3), "5 5 1 0 0");
    }

    private static void needsAtTheEnd() {
        String[] texts = {"let", "let a", "let a =", "let a = 1", "out", "ret 1", "if 1", "if 1 {", "if 1 {} else", "do",
            "fun", "fun f", "fun f(", "fun f(a", "fun f(a,", "fun f(a)", "fun f(a) {", "1", "(", "(1", "-", "{", "{1"};
        String[] wants = {"0@1 1@1 2@1 7@1", "1@2 2@2 7@2", "2@3 7@3", "2@4", "2@1 7@1", "13@0 2@2", "3@2", "4@3", "3@5",
            "3@1 7@1", "0@1 3@1 5@1 6@1", "3@2 5@2 6@2", "3@3 6@3", "3@4 6@4", "0@5 3@5 6@5", "3@5", "4@6", "2@1",
            "2@1 6@1 7@1", "2@2 6@2", "2@1 7@1", "4@1", "2@2 4@2"};
        for (int i = 0; i < texts.length; i++) {
            expect.same("faults of " + texts[i], Typist.faults(Typist.desk(texts[i])), wants[i]);
        }
    }

    private static void meant(String text, String things) {
        Bracketdesk desk = Typist.desk(text);
        StringBuilder all = new StringBuilder();
        for (int i = 0; i < desk.desk(2); i++) {
            if (desk.ofWord(i, 0) == 0) {
                all.append(all.length() == 0 ? "" : " ").append(desk.ofWord(i, 4));
            }
        }
        expect.same("meanings in " + text, all.toString(), things);
    }

    /** A LET that ends ahead, be it at its ";" or ahead of a FAULT. */
    private static void letsThatEnd() {
        meant("let a = a;", "0 -1");
        meant("let a = a; a = a;", "0 -1 0 0");
        meant("let a = 1 out a;", "0 0");
        meant("let a = out a;", "0 0");
        meant("let a out a;", "0 0");
        meant("let = a;", "-1");
        meant("let a = a + (a", "0 -1 -1");
        meant("let a = 1; let a = a; let a = a; out a;", "0 1 0 2 1 2");
    }

    private static void scopes() {
        meant("let a = 1; {let a = a; a = 2;} a = 3;", "0 1 0 1 0");
        meant("let f = 1; {out f; fun f() {}}", "0 1 1");
        meant("fun f() {} {let f = 1; f();} f();", "0 1 1 0");
        meant("f(); {f(); fun f() {} fun f() {}} fun f() {} fun f() {}", "2 0 0 1 2 3");
        meant("fun f(f) {f(); out f;} f();", "0 1 1 1 0");
        meant("fun f(a) {{let a = 1;} out a;}", "0 1 2 1");
        meant("fun f(a, b, a) {out a; out b;}", "0 1 2 3 3 2");
        meant("fun f(a) {fun g(b) {out a; out b;} out b;}", "0 1 2 3 1 3 -1");
        meant("do 1 {let a = 1;} out a;", "0 -1");
        meant("{let a = 1;", "0");
        meant("{let a = 1; out a", "0 0");
        meant("fun (a) {out a;}", "0 0");
    }

    private static void faults(String text, String faults) {
        expect.same("faults of " + text, Typist.faults(Typist.desk(text)), faults);
    }

    private static void faultsOfNames() {
        faults("fun f() {} f(1);", "12@6");
        faults("fun f(a) {} f();", "12@7");
        faults("fun f(a, b) {} f(1); f(1, 2); f(1, 2, 3);", "12@9 12@21");
        faults("fun f(a, a) {} f(1, 2); f(1);", "12@16");
        faults("let f = 1; f(); f();", "11@5 11@9");
        faults("fun f(a) {a(1);}", "11@6");
        faults("fun f() {} f = f;", "10@6 10@8");
        faults("f(); f = f;", "9@0 9@4 9@6");
        faults("ret 1;", "13@0");
        faults("fun f() {ret 1; if 1 {ret 2;}} if 1 {ret 3;}", "13@19");
        faults("fun f() ret 1;", "3@4 13@4");
        faults("fun f() {ret 1;", "4@8");
        faults("fun f() {fun g() {} ret 1;} ret 2;", "13@15");
    }

    private static void orderOfFaults() {
        faults("a 'b", "9@0 2@1 14@1 2@2");
        faults("out 'a", "14@1 2@2");
        faults("ret ret", "13@0 2@1 7@1 13@1 2@2 7@2");
        faults("{{{", "4@3");
        faults("((1", "2@3 6@3");
        faults("out (;/*", "6@2 7@2 15@4");
        faults("let /*", "0@2 1@2 2@2 7@2 15@2");
    }

    private static void thingsAtTheEdge() {
        Bracketdesk desk = Typist.desk("fun f() {} fun g(a) {} fun h(a, b, {{{let c = 1;");
        expect.same("things", desk.desk(4), 7);
        expect.same("no parameter", desk.thing(0, 4), 0);
        expect.same("one", desk.thing(1, 4), 1);
        expect.same("two and a fault", desk.thing(3, 4), 2);
        expect.same("in the program alone", desk.thing(0, 3), 1);
        expect.same("a parameter", desk.thing(2, 3), 2);
        expect.same("used by itself", desk.uses(5) + " " + desk.thing(5, 2), "18 1");
        Bracketdesk deep = Typist.desk("{".repeat(8) + "let c = 1;c = c;");
        expect.same("in eight blocks", deep.thing(0, 3), 9);
        expect.same("uses", deep.uses(0), "9 13 15");
        expect.same("as many", deep.thing(0, 2), 3);
        Bracketdesk inner = Typist.desk("fun f() {{fun g(a) {let b = 1;}}}");
        expect.same("scopes of g, a, b", inner.thing(1, 3) + " " + inner.thing(2, 3) + " " + inner.thing(3, 3), "4 5 6");
    }

    private static String offers(Bracketdesk desk, int place, boolean isFunction) {
        Typist.cursorsAt(desk, place);
        StringBuilder all = new StringBuilder();
        int count = 0;
        while (!desk.complete(count, isFunction).isEmpty()) {
            all.append(count == 0 ? "" : " ").append(desk.complete(count, isFunction));
            count++;
        }
        expect.same("none behind the last one", desk.complete(count + 1, isFunction), "");
        return all.toString();
    }

    /** The letters right ahead of the CURSOR, no digit, not those behind. */
    private static void letters() {
        String text = "let abc = 1;let ab1 = 2;let b = 3;fun abd() {} out abcd;1b;b1b;";
        Bracketdesk desk = Typist.desk(text);
        int out = text.indexOf("abcd;");
        expect.same("no letter", offers(desk, out, false), "b ab1 abc");
        expect.same("one letter", offers(desk, out + 1, false), "ab1 abc");
        expect.same("two", offers(desk, out + 2, false), "ab1 abc");
        expect.same("three", offers(desk, out + 3, false), "abc");
        expect.same("four", offers(desk, out + 4, false), "");
        expect.same("functions", offers(desk, out + 2, true), "abd");
        expect.same("no such function", offers(desk, out + 3, true), "");
        expect.same("a letter behind a number", offers(desk, text.indexOf("1b;") + 2, false), "b");
        expect.same("a letter behind a digit of a name", offers(desk, text.length() - 1, false), "b");
        expect.same("behind a sign", offers(desk, text.length(), false), "b ab1 abc");
        expect.same("at place 0", offers(desk, 0, true), "abd");
        expect.same("no variable there", offers(desk, 0, false), "");
    }

    /** The LET ends ahead of WORD w: w is how many WORDS begin ahead of the letters. */
    private static void endsOfLets() {
        String text = "let a = 1; let b = a; ";
        Bracketdesk desk = Typist.desk(text);
        expect.same("in the first let", offers(desk, 9, false), "");
        expect.same("at its end", offers(desk, 10, false), "a");
        expect.same("in its name: it has not begun", offers(desk, 5, false), "");
        expect.same("behind a in the second let", offers(desk, 20, false), "a");
        expect.same("behind its end", offers(desk, 21, false), "b a");
        Bracketdesk comment = Typist.desk("let a = 1 /*c*/ /*d*/");
        expect.same("a let without end, ahead of comments", offers(comment, 9, false), "a");
        expect.same("behind them", offers(comment, 15, false), "a");
        Bracketdesk ended = Typist.desk("let a = 1 /*c*/ ; ");
        expect.same("ahead of the end", offers(ended, 16, false), "");
        expect.same("behind the end", offers(ended, 17, false), "a");
        Bracketdesk same = Typist.desk("let a = 1; let a = 2; let b = 3; let a = 4; ");
        expect.same("each once, from the last one on", offers(same, 44, false), "a b");
        expect.same("behind three", offers(same, 33, false), "b a");
    }

    private static void endsOfBlocks() {
        String text = "{let a = 1;} fun f(b) {} out 1;";
        Bracketdesk desk = Typist.desk(text);
        expect.same("ahead of the block's end", offers(desk, 11, false), "a");
        expect.same("behind it", offers(desk, 12, false), "");
        expect.same("behind fun", offers(desk, 16, false), "");
        expect.same("behind fun and a blank", offers(desk, 17, false), "b");
        expect.same("at its name", offers(desk, 18, false), "");
        expect.same("behind its bracket", offers(desk, 19, false), "b");
        expect.same("in its block", offers(desk, 23, false), "b");
        expect.same("behind its block", offers(desk, 24, false), "");
        Bracketdesk open = Typist.desk("fun f(a) {{let b = 1; ");
        expect.same("blocks that lack their end", offers(open, 22, false), "b a");
        Bracketdesk both = Typist.desk("fun f(a) {{let b = 1; } ");
        expect.same("one of them ended", offers(both, 24, false), "a");
        Bracketdesk none = Typist.desk("fun f(a ");
        expect.same("a fun without its block ends", offers(none, 8, false), "");
        Bracketdesk comments = Typist.desk("{let a = 1; /*c*/ } /*d*/");
        expect.same("behind a comment", offers(comments, 17, false), "a");
        expect.same("ahead of the end", offers(comments, 18, false), "a");
        expect.same("behind the end", offers(comments, 19, false), "");
    }

    private static void blocksThatCameAndWent() {
        Bracketdesk desk = Typist.desk("fun f(b) {");
        expect.same("open", offers(desk, 10, false), "b");
        desk.erase();
        expect.same("no block", offers(desk, 9, false), "");
        desk.go(7);
        desk.erase();
        expect.same("no block either", offers(desk, 8, false), "");
        desk.undo();
        desk.undo();
        desk.go(7);
        desk.say(18);
        expect.same("closed", offers(desk, 11, false), "");
        expect.same("ahead of its end", offers(desk, 10, false), "b");
        expect.same("sound", desk.isSound(), true);
    }
}
