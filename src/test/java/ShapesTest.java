/** Section 6 and promises 19 to 26, 39 and 43 at their edges: what is put where, SHAPES, layout, what save() keeps. */
public final class ShapesTest {
    private static final Expect expect = new Expect("ShapesTest");

    public static void main(String[] args) {
        blanksPutBetween();
        noBlanksPutBetween();
        greatAndSmall();
        signsOfExprs();
        bracketsPut();
        turned();
        pruned();
        numbersOfJustThatSign();
        wordsOfX();
        callsInX();
        kindsOfNodes();
        smallestNode();
        namesAtTheEdge();
        indented();
        linesWithoutWords();
        saved();
        savedAndNoneTwice();
        expect.end();
    }

    private static void becomes(String text, String call, int answer, String want) {
        Caller caller = new Caller();
        caller.desk = Typist.desk(text);
        int states = caller.desk.desk(11);
        expect.same(call + " in " + text, caller.call(call), "" + answer);
        expect.same(call + " makes of " + text, caller.desk.all(), want);
        expect.same("states", caller.desk.desk(11), text.equals(want) ? states : states + 1);
        expect.same("sound", caller.desk.isSound(), true);
    }

    /** Where a letter or digit would come directly beside another one. */
    private static void blanksPutBetween() {
        becomes("out(0);", "refine 6", 1, "out 0;");
        becomes("out(9);", "refine 6", 1, "out 9;");
        becomes("let a=1;out(a);", "refine 6", 6, "let a=1;out a;");
        becomes("let z=1;out(z);", "refine 6", 6, "let z=1;out z;");
        becomes("out--9;", "refine 5", 1, "out 9;");
        becomes("out(2)-(2);", "refine 7", 1, "out 0;");
        becomes("out'a'*0;", "refine 8", 1, "out 0;");
        becomes("out(2)==(2);", "refine 9", 1, "out 1;");
        becomes("if(1){}", "refine 6", 1, "if 1{}");
        becomes("fun f(){ret(1);}", "refine 6", 6, "fun f(){ret 1;}");
        becomes("out(1);", "draw 1 25 true", 1, "let z = (1); out z;");
        becomes("out-1;", "draw 1 0 true", 1, "let a = -1; out a;");
        becomes("out'x';", "draw 1 0 true", 1, "let a = 'x'; out a;");
        becomes("if!1{}else{}", "turn 0", 15, "if 1 {} else {}");
        becomes("if!(1){}else{}", "turn 0", 17, "if (1) {} else {}");
    }

    private static void noBlanksPutBetween() {
        becomes("out((1));", "refine 6", 1, "out(1);");
        becomes("out('a');", "refine 6", 1, "out'a';");
        becomes("out(1)+0;", "refine 0", 1, "out(1);");
        becomes("out -(1);", "refine 6", 2, "out -1;");
        becomes("out(1)+(0);", "refine 6", 1, "out 1+(0);");
        becomes("out 0+-1;", "refine 1", 1, "out -1;");
        becomes("1 + 2;", "draw 0 0 false", 1, "let a = 1; a + 2;");
        becomes("1 + 2;", "draw 0 0 true", 1, "let a = 1 + 2; a;");
        becomes("{1;}", "draw 1 0 true", 2, "{let a = 1; a;}");
        becomes("let a='x';out a;", "putIn 1", 8, "out 'x';");
        becomes("if(1){}else{}", "turn 0", 18, "if !(1) {} else {}");
    }

    /** Of several NODES that begin there the one that holds the others, otherwise the smallest one. */
    private static void greatAndSmall() {
        becomes("out 1 + 2 + 3;", "draw 1 0 true", 1, "let a = 1 + 2 + 3; out a;");
        becomes("out 1 + 2 + 3;", "draw 1 0 false", 1, "let a = 1; out a + 2 + 3;");
        becomes("out (1 + 2) * 3;", "draw 1 0 true", 1, "let a = (1 + 2) * 3; out a;");
        becomes("out (1 + 2) * 3;", "draw 1 0 false", 1, "let a = (1 + 2); out a * 3;");
        becomes("out -1 < 2;", "draw 1 0 false", 1, "let a = -1; out a < 2;");
        becomes("out -1 < 2;", "draw 2 0 true", 1, "let a = 1; out -a < 2;");
        becomes("out 1 + 2 * 3;", "draw 3 0 true", 1, "let a = 2 * 3; out 1 + a;");
        becomes("out 1 + 2 * 3;", "draw 3 0 false", 1, "let a = 2; out 1 + a * 3;");
        becomes("let b = 1 - 2;", "draw 3 1 true", 1, "let b = 1 - 2; let b = b;");
    }

    /** From the first SIGN of its first WORD to the last one of its last WORD, with all COMMENTS and LINE ENDS between. */
    private static void signsOfExprs() {
        becomes("out /*c*/ 1 /*d*/ + /*e*/ 2 /*f*/ ;", "draw 2 0 true", 1,
            "let a = 1 /*d*/ + /*e*/ 2; out /*c*/ a /*f*/ ;");
        becomes("out 1 /*c*/ + /*d*/ 0 /*e*/ ;", "refine 0", 1, "out 1 /*e*/ ;");
        becomes("out (\n1\n);", "refine 6", 1, "out 1;");
        becomes("out 0\n+\n(1\n* 2);", "refine 1", 1, "out (1\n* 2);");
        becomes("let a = 1/*c*/;/*d*/out/*e*/a;", "putIn 1", 10, "out/*e*/1;");
        becomes("/*c*/ let a = 1; /*d*/ out 2;", "prune", 1, "/*c*/  /*d*/ out 2;");
        becomes("if /*c*/ 1 /*d*/ {} /*e*/ else /*f*/ {}", "turn 0", 16, "if !1 {} else {}");
        becomes("if ! /*c*/ 1 {/*d*/} else {\n} out 2;", "turn 0", 28, "if 1 {\n} else {/*d*/} out 2;");
        becomes("out\n1;", "draw 1 0 true", 1, "let a = 1; out\na;");
    }

    /** In brackets, if without them it is not a NODE of the same KIND with the same WORDS. */
    private static void bracketsPut() {
        String[] exprs = {"1 + 2", "1 < 2", "-1", "1", "'x'", "(1)", "1 * 2"};
        String[] behind = {"out a;", "out a + 3;", "out 3 + a;", "out a * 3;", "out 3 * a;", "out -a;", "out a < 3;",
            "out 3 - a;", "out (a);", "if a {}"};
        // by EXPR and STATEMENT: 1 with brackets
        String[] brackets = {"0011110100", "0111110100", "0000000000", "0000000000", "0000000000", "0000000000",
            "0000110000"};
        for (int i = 0; i < exprs.length; i++) {
            for (int k = 0; k < behind.length; k++) {
                boolean isIn = brackets[i].charAt(k) == '1';
                String expr = isIn ? "(" + exprs[i] + ")" : exprs[i];
                String want = behind[k].replace("a", expr);
                becomes("let a = " + exprs[i] + ";" + behind[k], "putIn 1", want.length(), want);
            }
        }
        becomes("let a = 1 + 2;out a + 4 - 3;", "putIn 1", 18, "out 1 + 2 + 4 - 3;");
        becomes("let b = 5;let a = b;let b = a;", "putIn 6", 20, "let b = 5;let b = b;");
    }

    private static void turned() {
        String[] exprs = {"1", "'x'", "(1)", "-1", "--1", "1 + 2", "1 < 2", "-1 + 2", "!1", "!!1", "!(1 + 2)", "!1 + 2"};
        String[] turned = {"!1", "!'x'", "!(1)", "!-1", "!--1", "!(1 + 2)", "!(1 < 2)", "!(-1 + 2)", "1", "!1", "(1 + 2)",
            "!(!1 + 2)"};
        for (int i = 0; i < exprs.length; i++) {
            String want = "if " + turned[i] + " {out 2;} else {out 1;}";
            becomes("if " + exprs[i] + " {out 1;} else {out 2;}", "turn 0", want.length(), want);
        }
        becomes("let a = 1; fun f() {} if a {} else {} if f() {} else {}", "turn 11", 56,
            "let a = 1; fun f() {} if !a {} else {} if f() {} else {}");
        becomes("let a = 1; fun f() {} if a {} else {} if f() {} else {}", "turn 18", 56,
            "let a = 1; fun f() {} if a {} else {} if !f() {} else {}");
        becomes("if 1 {if 2 {} else {out 3;}}", "turn 3", 29, "if 1 {if !2 {out 3;} else {}}");
        becomes("if 1 {let a = 1; out a;} else {let a = 2; out a;}", "turn 0", 50,
            "if !1 {let a = 2; out a;} else {let a = 1; out a;}");
    }

    private static void pruned() {
        becomes("let a = 1;", "prune", 1, "");
        becomes("let a = 1;let a = 2;let a = 3;", "prune", 3, "");
        becomes("let a = 1;let a = a;out a;", "prune", 0, "let a = 1;let a = a;out a;");
        becomes("let a = 1;let b = a;let c = a + b;out 1;", "prune", 3, "out 1;");
        becomes("fun f() {}let a = f();let b = 1;", "prune", 1, "fun f() {}let a = f();");
        becomes("fun f() {}let b = 1;let a = f() + b;", "prune", 0, "fun f() {}let b = 1;let a = f() + b;");
        becomes("fun f(a) {}", "prune", 0, "fun f(a) {}");
        becomes("let a = 1;a = 2;", "prune", 0, "let a = 1;a = 2;");
        becomes("if 1 {let a = 1;} else {let a = 2;}", "prune", 2, "if 1 {} else {}");
        becomes("let a = 1;".repeat(50), "prune", 50, "");
    }

    private static void found(String text, int shape, String words) {
        Bracketdesk desk = Typist.desk(text);
        StringBuilder all = new StringBuilder();
        int count = 0;
        while (desk.find(shape, count) >= 0) {
            all.append(count == 0 ? "" : " ").append(desk.find(shape, count));
            count++;
        }
        expect.same("shape " + shape + " in " + text, all.toString(), words);
        expect.same("none behind the last one", desk.find(shape, count + 1), -1);
    }

    private static void numbersOfJustThatSign() {
        String[] none = {"00", "01", "10", "2", "'0'", "''", "(0)", "-0", "'x'"};
        for (String number : none) {
            found("out 7 + " + number + ";", 0, "");
            found("out " + number + " + 7;", 1, "");
            found("out 7 * " + number + ";", 2, "");
            found("out " + number + " * 7;", 3, "");
            found("out 7 - " + number + ";", 4, "");
            found("out 7 * " + number + ";", 8, "");
        }
        found("out 7 + 0;out 7 + 1;", 0, "1");
        found("out 0 + 7;out 1 + 7;", 1, "1");
        found("out 7 * 0;out 7 * 1;", 2, "6");
        found("out 0 * 7;out 1 * 7;", 3, "6");
        found("out 7 - 0;out 7 - 1;", 4, "1");
        found("out 7 * 0;out 7 * 1;out 0 * 7;", 8, "1");
    }

    /** X has a WORD at least; two X have the same WORDS, COMMENTS apart. */
    private static void wordsOfX() {
        found("let a = + 0;", 0, "");
        found("let a = 0 +;", 1, "");
        found("let a = * 1;", 2, "");
        found("let a = 1 *;", 3, "");
        found("let a = * 0;", 8, "");
        found("let a = == ;", 9, "");
        found("out - -;", 5, "");
        found("out - - 1;", 5, "1");
        found("out (1 + 2) - (1 + 2);out (1 + 2) - (1 + 3);", 7, "1");
        found("out (1/*c*/+ 2) - ( 1 +\n2/*d*/);", 7, "1");
        found("out 1 - 01;out 1 - 1;out 1 - 11;", 7, "6");
        found("out a - b;out a - aa;out aa - aa;", 7, "11");
        found("out 'a' == 'a';out 'a' == ' a';out 'a' == 'b';", 9, "1");
        found("out 1 - 1 - 1;out 1 - (1 - 1);", 7, "1 11");
        found("out 2 + 1 == 2 + 1;out 2 + 1 == 1 + 2;", 9, "1");
        found("out 1 == 1 == 1;", 9, "1");
        found("out 1 - 1;", 9, "");
        found("out 1 == 1;", 7, "");
    }

    private static void callsInX() {
        String fun = "fun f() {} ";
        found(fun + "out f() + 0;", 0, "7");
        found(fun + "out 0 + f();", 1, "7");
        found(fun + "out f() * 1;", 2, "7");
        found(fun + "out 1 * f();", 3, "7");
        found(fun + "out f() - 0;", 4, "7");
        found(fun + "out - - f();", 5, "7");
        found(fun + "out (f());", 6, "7");
        found(fun + "out f() - f();out (1 + f()) - (1 + f());", 7, "");
        found(fun + "out f() * 0;out -f() * 0;out 1 * (2 + f()) * 0;", 8, "");
        found(fun + "out f() == f();out -f() == -f();", 9, "");
    }

    private static void kindsOfNodes() {
        found("out - -1;out -(-1);out -!1;out !-1;out !!1;out 1 - -1;out 1 - - -1;", 5, "1 36");
        found("out ---1;", 5, "1 2");
        found("out (1);out ('x');out (a);out (f());out ((1));", 6, "1 6 11 16 23 24");
        found("out (-1);out (!1);out (1 + 2);out (1 < 2);out ();", 6, "");
        found("f((1), (2), (3 + 4));", 6, "2 6");
        found("out (1", 6, "1");
    }

    /** The NODE with the smallest number: one that holds another comes first. */
    private static void smallestNode() {
        becomes("out 1 + 0 + 0;", "refine 0", 1, "out 1 + 0;");
        becomes("out ((1));", "refine 6", 1, "out (1);");
        becomes("out ---1;", "refine 5", 1, "out -1;");
        becomes("out 0 * 0 * 0;", "refine 8", 1, "out 0;");
        becomes("out 2 * (3 + 0) + 0;", "refine 0", 1, "out 2 * (3 + 0);");
        becomes("out 2 * (3 + 0) + 1;", "refine 0", 4, "out 2 * (3) + 1;");
        becomes("out 1 * 2 * 3;", "refine 3", 1, "out 2 * 3;");
    }

    private static void namesAtTheEdge() {
        becomes("let ab = 1;", "rename 1 0", 1, "let a = 1;");
        becomes("let ab = 1;", "rename 1 25", 1, "let z = 1;");
        becomes("let a = 1;", "rename 1 0", 0, "let a = 1;");
        becomes("let a1 = 1;a1 = a1;", "rename 7 0", 3, "let a = 1;a = a;");
        becomes("fun f(a, b) {}", "rename 3 1", 1, "fun f(b, b) {}");
        becomes("fun f() {} fun g() {}", "rename 7 5", 1, "fun f() {} fun f() {}");
        becomes("fun f() {} let a = 1;", "rename 7 5", 1, "fun f() {} let f = 1;");
        becomes("let a = 1;out a;", "draw 6 0 true", 6, "let a = 1;let a = a; out a;");
        becomes("let a = 1;out a + a;", "draw 6 0 false", -10 - 8, "let a = 1;out a + a;");
    }

    private static void indented() {
        becomes("{\na", "indent 0", 0, "{\na");
        becomes("{\na", "indent 1", 1, "{\n a");
        becomes("{\na", "indent 4", 1, "{\n    a");
        becomes(" {\n {\n {\n a", "indent 4", 4, "{\n    {\n        {\n            a");
        becomes("{ {\n}\n}", "indent 2", 1, "{ {\n  }\n}");
        becomes("{ {\n} }\na", "indent 2", 1, "{ {\n  } }\na");
        becomes("{\n} {\na\n}", "indent 1", 1, "{\n} {\n a\n}");
        becomes("{}\na", "indent 4", 0, "{}\na");
        becomes("{\na }\nb", "indent 1", 1, "{\n a }\nb");
        becomes("(\na\n)", "indent 4", 0, "(\na\n)");
        becomes("{\n)\n}", "indent 1", 1, "{\n )\n}");
        becomes("'{'\na", "indent 1", 0, "'{'\na");
        becomes("/*{*/\na", "indent 1", 0, "/*{*/\na");
        becomes("}\n}\na", "indent 1", 0, "}\n}\na");
        becomes("{(\n}\n}", "indent 1", 2, "{(\n }\n }");
        becomes("{\n/**/ }\na", "indent 1", 1, "{\n /**/ }\na");
        becomes("{\n a\n a\n}", "indent 1", 0, "{\n a\n a\n}");
    }

    private static void linesWithoutWords() {
        becomes("{\n\n   \na", "indent 2", 2, "{\n\n\n  a");
        becomes("  ", "indent 4", 1, "");
        becomes("{ /*\n  a\n  \n\n  */ b\nc", "indent 1", 1, "{ /*\n  a\n  \n\n  */ b\n c");
        becomes("{\n   /*\n*/\na", "indent 1", 2, "{\n /*\n*/\n a");
    }

    private static void changed(String before, String after, int count) {
        Bracketdesk desk = Typist.desk(before);
        desk.save();
        while (desk.desk(0) > 0) {
            desk.erase();
        }
        Typist.write(desk, after);
        expect.same(before + " became " + after, desk.changed(), count);
        expect.same("how many there are", desk.save(), after.isEmpty() ? 0 : desk.node(0, 4));
        expect.same("none is another then", desk.changed(), 0);
    }

    private static void saved() {
        changed("1;2;3;", "1;2;3;", 0);
        changed("1;2;3;", "1;9;3;", 1);
        changed("1;2;3;", "9;2;3;", 1);
        changed("1;2;3;", "1;2;9;", 1);
        changed("1;2;3;", "9;2;9;", 3);
        changed("1;2;3;", "2;3;", 0);
        changed("1;2;3;", "1;3;", 0);
        changed("1;2;3;", "", 0);
        changed("", "1;2;", 2);
        changed("1;2;3;", "1;2;4;5;3;", 2);
        changed("ab;", "a b;", 2);
        changed("out 1;", "out/*c*/\n1 ;", 0);
        changed("'a';", "'b';", 1);
        changed("'a ';", "' a';", 1);
        changed("{1;}", "{2;}", 1);
        changed("{1;}", "{1;};", 1);
        changed("1", "1;", 1);
        expect.same("without save", Typist.desk("1;2;").changed(), 2);
        expect.same("without statements", Typist.desk("/*c*/").changed(), 0);
    }

    private static void savedAndNoneTwice() {
        changed("1;", "1;1;", 1);
        changed("1;1;", "1;", 0);
        changed("1;1;1;", "1;1;", 0);
        changed("1;2;1;", "1;1;", 0);
        changed("1;1;", "1;2;1;", 1);
        changed("1;2;", "1;2;1;2;", 2);
        Bracketdesk desk = Typist.desk("1;2;");
        desk.save();
        desk.undo();
        desk.undo();
        expect.same("undone", desk.changed(), 0);
        desk.redo(0);
        expect.same("a statement without its end", desk.changed(), 1);
        desk.redo(0);
        expect.same("as it was saved", desk.changed(), 0);
    }
}
