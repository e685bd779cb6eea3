/** 8 BLOCKS, 8 ONES, VALUES by 1000000, 32 bits, 300 STEPS, 6 CALLS: the last that is taken, the first that is not. */
public final class DepthTest {
    private static final Expect expect = new Expect("DepthTest");

    public static void main(String[] args) {
        blocks();
        blocksOfStatements();
        ones();
        onesOfCalls();
        values();
        bits();
        stepsOfStatements();
        stepsOfCalls();
        stepsOfBlocks();
        callsInCalls();
        cutRunsTellWhatWasTold();
        expect.end();
    }

    private static void faults(String text, String faults) {
        expect.same("faults of " + text, Typist.faults(Typist.desk(text)), faults);
    }

    private static void blocks() {
        faults("{".repeat(8) + "}".repeat(8), "");
        faults("{".repeat(8) + "out 1;" + "}".repeat(8), "");
        faults("{".repeat(8) + "{" + "}".repeat(8), "8@8");
        Bracketdesk desk = Typist.desk("{".repeat(9));
        expect.same("eight blocks and a stray one", Typist.nodes(desk), "0.0 8.1 8.2 8.3 8.4 8.5 8.6 8.7 8.8 10.9");
        expect.same("the end of each is needed, once at one word", Typist.faults(desk), "8@8 4@9");
        faults("{".repeat(7) + "{}{}" + "}".repeat(7), "");
    }

    /** The BLOCK of IF, DO and FUN may be the eighth one; as the ninth it has no WORDS. */
    private static void blocksOfStatements() {
        String[] heads = {"if 1 ", "do 1 ", "fun f() "};
        for (String head : heads) {
            int words = head.startsWith("fun") ? 4 : 2;
            faults("{".repeat(7) + head + "{}" + "}".repeat(7), "");
            String text = "{".repeat(8) + head + "{" + "}".repeat(8);
            faults(text, "3@" + (8 + words) + " 8@" + (8 + words));
            Bracketdesk desk = Typist.desk(text);
            int block = desk.desk(3) - 2;
            expect.same("the ninth block", desk.node(block, 0) + " in " + desk.node(block, 1), "8 in 10");
            expect.same("it would begin at", desk.node(block, 2), 8 + words);
            expect.same("its words and nodes", desk.node(block, 3) + " " + desk.node(block, 4), "0 0");
        }
        faults("{".repeat(7) + "if 1 {} else {}" + "}".repeat(7), "");
        faults("{".repeat(8) + "if 1 else" + "}".repeat(8), "3@10 3@11");
    }

    private static void ones() {
        faults("out " + "-".repeat(7) + "1;", "");
        faults("out " + "!".repeat(8) + "1;", "2@9 7@9");
        faults("out " + "(".repeat(7) + "1" + ")".repeat(7) + ";", "");
        faults("out " + "(".repeat(7) + "-1" + ")".repeat(7) + ";",
            "2@9 6@9 7@9 2@10 8@10 8@11 8@12 8@13 8@14 8@15 8@16 8@17");
        faults("out " + "-(".repeat(3) + "-1" + ")".repeat(3) + ";", "");
        faults("out " + "(".repeat(7) + "1 + 2 * 3 < 4" + ")".repeat(7) + ";", "");
        faults("out 1" + " + 1".repeat(30) + ";", "");
        Bracketdesk desk = Typist.desk("out " + "-".repeat(8) + "1;");
        int missing = 10;
        expect.same("missing in eight", desk.node(missing, 0) + " in " + desk.node(missing, 1), "18 in 10");
        expect.same("it would begin at", desk.node(missing, 2) + ", words " + desk.node(missing, 3), "9, words 0");
    }

    private static void onesOfCalls() {
        String fun = "fun f(a) {ret a;} fun g(a, b) {ret b;} ";
        int first = 22;
        faults(fun + "f(".repeat(7) + "1" + ")".repeat(7) + ";", "");
        faults(fun + "f(".repeat(8) + ")".repeat(8) + ";", "12@" + (first + 14));
        faults(fun + "g(1, ".repeat(7) + "1" + ")".repeat(7) + ";", "");
        Bracketdesk call = Typist.desk(fun + "f(".repeat(8) + "1");
        expect.same("the first expr of a call in seven", call.fault(1, 0) + "@" + call.fault(1, 1), "6@" + (first + 16));
        expect.same("it is missing", call.fault(2, 0) + "@" + call.fault(2, 1), "7@" + (first + 16));
        Bracketdesk later = Typist.desk(fun + "g(1, ".repeat(7) + "g(" + ")".repeat(8) + ";");
        expect.same("a call without exprs in seven", Typist.faults(later), "12@" + (first + 28));
        Bracketdesk second = Typist.desk(fun + "g(1, ".repeat(7) + "-1" + ")".repeat(7) + ";");
        expect.same("the second expr of a call in seven", Typist.faults(second), "2@51 6@51 7@51 2@52 8@52 8@53 8@54 "
            + "8@55 8@56 8@57 8@58 8@59");
    }

    private static void value(String number, int value) {
        expect.same("value of " + number, Typist.desk(number).ofWord(0, 6), value);
        expect.same("run of " + number, Typist.desk("out " + number + ";").run(), "" + value);
    }

    private static void values() {
        value("0", 0);
        value("000", 0);
        value("999999", 999999);
        value("1000000", 0);
        value("1000001", 1);
        value("9999999", 999999);
        value("12345678901234567890", 567890);
        value("9".repeat(60), 999999);
        value("''", 0);
        value("' '", 1);
        value("'" + "x".repeat(60) + "'", 60);
        expect.same("a mark alone", Typist.desk("'").ofWord(0, 6), 0);
        expect.same("an open text", Typist.desk("'ab").ofWord(0, 6), 2);
    }

    private static void out(String text, String out) {
        expect.same("run of " + text, Typist.desk(text).run(), out);
    }

    private static void bits() {
        String most = "let m = 65536 * 32767 + 65535;";
        out(most + "out m;out m + 1;out m + m;", "2147483647 -2147483648 -2");
        out(most + "out -m;out -m - 1;out -m - 2;", "-2147483647 -2147483648 2147483647");
        out(most + "m = -m - 1;out m;out -m;out m - 1;out m * m;out m + m;", "-2147483648 -2147483648 2147483647 0 0");
        out("out 65536 * 65536;out 46341 * 46341;out 46340 * 46340;", "0 -2147479015 2147395600");
        out(most + "out m < m + 1;out m + 1 < m;out -m - 2 == m;out !(m + m + 2);", "0 1 1 1");
        out("if 65536 * 65536 {out 1;} else {out 2;}", "2");
        out("let a = 999999 * 999999;out a;", "-729379967");
    }

    private static void ran(String text, String out, int steps, int told, int cut) {
        Bracketdesk desk = Typist.desk(text);
        expect.same("steps of " + text, desk.ran(0), steps);
        expect.same("told by " + text, desk.ran(1), told);
        expect.same("cut of " + text, desk.ran(2), cut);
        expect.same("run of " + text, desk.run(), out);
    }

    /** A text of so many STEPS: a LET, a DO, and two STEPS each time. */
    private static String steps(int steps) {
        return (steps % 2 == 1 ? "{}" : "") + "let n = " + (steps / 2 - 1) + ";do n {n = n - 1;}";
    }

    private static void stepsOfStatements() {
        String[] ones = {"out 7;", "let a = 7;", "n = 7;", "7;", "{}", "do 0 {}", "if 0 {}", "fun f() {}"};
        for (String one : ones) {
            boolean isTold = one.startsWith("out");
            ran(steps(299) + one, isTold ? "7" : "", 300, isTold ? 1 : 0, 0);
            ran(steps(300) + one, "~", 300, 0, 1);
        }
        ran(steps(300), "", 300, 0, 0);
        ran("out 5;" + steps(298) + "out 6;out 7;", "5 6~", 300, 2, 1);
    }

    private static void stepsOfBlocks() {
        ran(steps(298) + "if 1 {}", "", 300, 0, 0);
        ran(steps(299) + "if 1 {}", "~", 300, 0, 1);
        ran(steps(298) + "if 0 {} else {}", "", 300, 0, 0);
        ran(steps(299) + "if 0 {} else {}", "~", 300, 0, 1);
        ran(steps(298) + "{{}}", "", 300, 0, 0);
        ran(steps(299) + "{{}}", "~", 300, 0, 1);
        ran(steps(299) + "do 1 {}", "~", 300, 0, 1);
        ran("do 1 {}", "~", 300, 0, 1);
    }

    private static void stepsOfCalls() {
        String fun = "fun f() {}";
        ran(fun + steps(296) + "out f();", "0", 300, 1, 0);
        ran(fun + steps(297) + "out f();", "~", 300, 0, 1);
        ran(fun + steps(298) + "out f();", "~", 300, 0, 1);
        ran(fun + steps(299) + "out f();", "~", 300, 0, 1);
        ran("fun f(a) {out 5;}" + steps(297) + "f(1);", "~", 300, 0, 1);
        ran("fun f() {out 5;}" + steps(295) + "f();out 6;", "5~", 300, 1, 1);
        ran("fun f(a) {ret 5;}" + steps(293) + "f(f(1));", "~", 300, 0, 1);
        ran("fun f(a) {ret 5;}" + steps(292) + "f(f(1));", "", 300, 0, 0);
    }

    private static void callsInCalls() {
        String fun = "fun f(a) {if a {ret f(a - 1);} ret 9;}";
        ran(fun + "out f(5);", "9", 31, 1, 0);
        ran(fun + "out f(6);", "~", 32, 0, 1);
        ran(fun + "out f(5) + f(5);", "18", 60, 1, 0);
        ran("fun f(a) {ret a;} out f(f(f(f(f(f(f(3)))))));", "3", 23, 1, 0);
        ran("fun f(a) {if a {f(f(a - 1));}} f(5);", "", 45, 0, 0);
        ran("fun f(a) {if a {f(f(a - 1));}} f(6);", "~", 37, 0, 1);
        ran("fun g() {out 8;} fun f(a) {if a {f(a - 1);} else {g();}} f(4);", "8", 31, 1, 0);
        ran("fun g() {out 8;} fun f(a) {if a {f(a - 1);} else {g();}} f(5);", "~", 33, 0, 1);
    }

    private static void cutRunsTellWhatWasTold() {
        ran("do 1 {out 1;}", "1 ".repeat(149).trim() + "~", 300, 149, 1);
        ran("out 3;fun f() {out 4;f();} f();", "3 4 4 4 4 4 4~", 27, 7, 1);
        Bracketdesk desk = Typist.desk("do 1 {out 1;}");
        expect.same("cut", desk.ran(2), 1);
        desk.at(0, 4);
        desk.erase();
        desk.key(26);
        expect.same("not cut any more", desk.ran(2) + " " + desk.ran(0) + " " + desk.ran(1), "0 1 0");
        expect.same("another run", desk.run(), "");
        desk.undo();
        expect.same("faults", desk.run() + desk.ran(0), "?-1");
        desk.undo();
        expect.same("cut again", desk.ran(0) + " " + desk.ran(1) + " " + desk.ran(2), "300 149 1");
    }
}
