/** Promises 33 and 36: NODES and the FAULTS of the tree. */
public final class TreeTest {
    private static final Expect expect = new Expect("TreeTest");

    public static void main(String[] args) {
        statements();
        expressions();
        needs();
        strays();
        depths();
        numbers();
        wrongInputs();
        expect.end();
    }

    /** Each NODE as KIND.depth, each FAULT as KIND@WORD. */
    private static void read(String text, String nodes, String faults) {
        Bracketdesk desk = Typist.desk(text);
        expect.same("nodes of " + text, Typist.nodes(desk), nodes);
        expect.same("faults of " + text, Typist.faults(desk), faults);
    }

    private static void statements() {
        read("", "0.0", "");
        read("/*c*/", "0.0", "");
        read("let a = 1;", "0.0 1.1 13.2", "");
        read("let a = 1; a = 2;", "0.0 1.1 13.2 2.1 13.2", "");
        read("out 'x'; 1;", "0.0 3.1 14.2 9.1 13.2", "");
        read("if 1 {}", "0.0 4.1 13.2 8.2", "");
        read("if 1 {} else {out 1;}", "0.0 4.1 13.2 8.2 8.2 3.3 13.4", "");
        read("do 0 {}", "0.0 5.1 13.2 8.2", "");
        read("fun f() {ret 1;}", "0.0 6.1 8.2 7.3 13.4", "");
        read("{{}}", "0.0 8.1 8.2", "");
        read("-1; !1; (1); 'a';", "0.0 9.1 12.2 13.3 9.1 12.2 13.3 9.1 17.2 13.3 9.1 14.2", "");
    }

    private static void expressions() {
        read("1 + 2 * 3;", "0.0 9.1 11.2 13.3 11.3 13.4 13.4", "");
        read("1 * 2 + 3;", "0.0 9.1 11.2 11.3 13.4 13.4 13.3", "");
        read("1 - 2 - 3;", "0.0 9.1 11.2 11.3 13.4 13.4 13.3", "");
        read("1 < 2 == 3;", "0.0 9.1 11.2 11.3 13.4 13.4 13.3", "");
        read("-1 * 2;", "0.0 9.1 11.2 12.3 13.4 13.3", "");
        read("(1 + 2) * 3;", "0.0 9.1 11.2 17.3 11.4 13.5 13.5 13.3", "");
        read("fun f(a, b) {} f(1, f(2, 3));", "0.0 6.1 8.2 9.1 16.2 13.3 16.3 13.4 13.4", "");
        read("fun f() {} f();", "0.0 6.1 8.2 9.1 16.2", "");
        read("fun f(a) {} f(,);", "0.0 6.1 8.2 9.1 16.2 18.3 18.3", "12@7 7@9 7@10");
    }

    private static void needs() {
        read("let", "0.0 1.1 18.2", "0@1 1@1 2@1 7@1");
        read("let 5", "0.0 1.1 13.2", "0@1 1@1 2@2");
        read("let a 1;", "0.0 1.1 13.2", "1@2");
        read("let if = 1;", "0.0 1.1 18.2 4.1 18.2 8.2 10.1 9.1 13.2", "0@1 1@1 2@1 7@1 3@2 7@2 8@2");
        read("out 1", "0.0 3.1 13.2", "2@2");
        read("out 1 /*c*/", "0.0 3.1 13.2", "2@3");
        read("out 1 /*c*/ out 2;", "0.0 3.1 13.2 3.1 13.2", "2@3");
        read("if", "0.0 4.1 18.2 8.2", "3@1 7@1");
        read("if 1 {} else", "0.0 4.1 13.2 8.2 8.2", "3@5");
        read("if 1 {", "0.0 4.1 13.2 8.2", "4@3");
        read("do 1 out 2;", "0.0 5.1 13.2 8.2 3.1 13.2", "3@2");
        read("fun f a) {}", "0.0 6.1 8.2", "5@2");
        read("fun (a, 5) {}", "0.0 6.1 8.2 9.1 13.2 10.1 8.1", "0@1 0@4 3@4 6@4 2@5 8@5");
        read("fun f(a b) {}", "0.0 6.1 8.2 9.1 15.2 10.1 8.1", "3@4 6@4 9@4 2@5 8@5");
        read("(1;", "0.0 9.1 17.2 13.3", "6@2");
    }

    private static void strays() {
        read("}", "0.0 10.1", "8@0");
        read("else ? ;", "0.0 10.1 10.1 10.1", "8@0 8@1 8@2");
        read("a == 1;", "0.0 9.1 11.2 15.3 13.3", "9@0");
        read("* 2;", "0.0 10.1 9.1 13.2", "8@0");
        read("let a = * 2;", "0.0 1.1 11.2 18.3 13.3", "7@3");
        read("-;", "0.0 9.1 12.2 18.3", "7@1");
        read("(((", "0.0 9.1 17.2 17.3 17.4 18.5", "2@3 6@3 7@3");
    }

    private static void depths() {
        read("{{{{{{{{{}}}}}}}}}", "0.0 8.1 8.2 8.3 8.4 8.5 8.6 8.7 8.8 10.9 10.1", "8@8 8@17");
        read("{{{{{{{{if 1 {}}}}}}}}}",
            "0.0 8.1 8.2 8.3 8.4 8.5 8.6 8.7 8.8 4.9 13.10 8.10 10.9 10.1", "3@10 8@10 8@19");
        read("--------1;",
            "0.0 9.1 12.2 12.3 12.4 12.5 12.6 12.7 12.8 12.9 18.10 9.1 13.2", "2@8 7@8");
        read("-------1;", "0.0 9.1 12.2 12.3 12.4 12.5 12.6 12.7 12.8 13.9", "");
        read("((((((((1))))))));", "0.0 9.1 17.2 17.3 17.4 17.5 17.6 17.7 17.8 17.9 18.10 9.1 13.2 "
            + "10.1 10.1 10.1 10.1 10.1 10.1 10.1 10.1 10.1",
            "2@8 6@8 7@8 2@9 8@9 8@10 8@11 8@12 8@13 8@14 8@15 8@16 8@17");
    }

    private static void numbers() {
        Bracketdesk desk = Typist.desk("/*c*/ let a /*d*/ = 1 +; if a");
        expect.same("first words", Typist.ofNodes(desk, 2), "1 1 5 5 7 8 9 10");
        expect.same("words in nodes", Typist.ofNodes(desk, 3), "8 6 2 1 0 2 1 0");
        expect.same("nodes in nodes", Typist.ofNodes(desk, 4), "2 1 2 0 0 2 0 0");
        Bracketdesk empty = Typist.desk("/*c*/");
        expect.same("it would begin behind all", empty.node(0, 2), 1);
        expect.same("no words", empty.node(0, 3), 0);
        Bracketdesk left = Typist.desk("out * 2;");
        expect.same("a binary without its left one", Typist.ofNodes(left, 2), "0 0 1 1 2");
        expect.same("its words", Typist.ofNodes(left, 3), "4 4 2 0 1");
    }

    private static void wrongInputs() {
        Bracketdesk desk = Typist.desk("let");
        for (int i : new int[] {-1, 3}) {
            expect.thrown(desk, "node " + i, IndexOutOfBoundsException.class, () -> desk.node(i, 7));
        }
        for (int i : new int[] {-1, 4}) {
            expect.thrown(desk, "fault " + i, IndexOutOfBoundsException.class, () -> desk.fault(i, 7));
        }
        for (int what : new int[] {-1, 5}) {
            expect.thrown(desk, "node of " + what, IllegalArgumentException.class, () -> desk.node(0, what));
        }
        for (int what : new int[] {-1, 2}) {
            expect.thrown(desk, "fault of " + what, IllegalArgumentException.class, () -> desk.fault(0, what));
        }
    }
}
