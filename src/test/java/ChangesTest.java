/** Promises 20 to 25: changes by the tree. */
public final class ChangesTest {
    private static final Expect expect = new Expect("ChangesTest");

    public static void main(String[] args) {
        renaming();
        renamingLoses();
        drawing();
        drawingNot();
        puttingIn();
        puttingInBrackets();
        puttingInNot();
        turning();
        pruning();
        refining();
        tooLong();
        faultsRefuse();
        followers();
        expect.end();
    }

    interface Change {
        int make(Bracketdesk desk);
    }

    private static void changed(String text, Change change, int answer, String want) {
        Bracketdesk desk = Typist.desk(text);
        int states = desk.desk(11);
        String ran = desk.run();
        expect.same("change of " + text, change.make(desk), answer);
        expect.same("it became", desk.all(), want);
        expect.same("one state", desk.desk(11), states + 1);
        expect.same("no faults", desk.desk(5), 0);
        expect.same("it runs alike", desk.run(), ran);
        expect.same("it is sound", desk.isSound(), true);
        expect.same("undone", desk.undo(), states - 1);
        expect.same("as it was", desk.all(), text);
    }

    private static void idle(String text, Change change, int answer) {
        Bracketdesk desk = Typist.desk(text);
        expect.idle(desk, "no change of " + text, answer, () -> change.make(desk));
    }

    private static void renaming() {
        changed("let ab = 1;out ab+ab;", d -> d.rename(1, 25), 3, "let z = 1;out z+z;");
        changed("let ab = 1;out ab+ab;", d -> d.rename(8, 0), 3, "let a = 1;out a+a;");
        changed("fun f(a) {ret a;} out f(f(1));", d -> d.rename(1, 6), 3, "fun g(a) {ret a;} out g(g(1));");
        changed("let a = 1; {let a = 2; out a;} out a;", d -> d.rename(7, 1), 2,
            "let a = 1; {let b = 2; out b;} out a;");
        changed("let a = 1; let a = a + 1; out a;", d -> d.rename(1, 1), 2, "let b = 1; let a = b + 1; out a;");
        changed("fun f(a) {ret a;} let a = 3; out f(a);", d -> d.rename(7, 23), 2,
            "fun f(x) {ret x;} let a = 3; out f(a);");
        idle("let a = 1;out a;", d -> d.rename(6, 0), 0);
        idle("let a = 1;out a;", d -> d.rename(0, 1), -9);
        idle("let a = 1;/*a*/out a;", d -> d.rename(5, 1), -9);
        Bracketdesk desk = Typist.desk("let a = 1;");
        for (int word : new int[] {-1, 5}) {
            expect.thrown(desk, "rename " + word, IndexOutOfBoundsException.class, () -> desk.rename(word, 30));
        }
        for (int name : new int[] {-1, 26}) {
            expect.thrown(desk, "rename to " + name, IllegalArgumentException.class, () -> desk.rename(0, name));
        }
    }

    private static void renamingLoses() {
        idle("let a = 1; let b = 2; out a; out b;", d -> d.rename(1, 1), -10 - 11);
        idle("let a = 1; let b = 2; out a; out b;", d -> d.rename(6, 0), -10 - 11);
        idle("let a = 1; {let b = 2; out a;}", d -> d.rename(1, 1), -10 - 12);
        idle("fun f() {} {let a = 1; f(); out a;}", d -> d.rename(8, 5), -10 - 12);
        idle("fun f(a, b) {out a;}", d -> d.rename(3, 1), -10 - 9);
        idle("/*c*/ fun f() {} fun g() {} g();", d -> d.rename(2, 6), -10 - 13);
        changed("let a = 1; out a; let b = 2; out b;", d -> d.rename(9, 0), 2, "let a = 1; out a; let a = 2; out a;");
    }

    private static void drawing() {
        changed("out 1 + 2 * 3;", d -> d.draw(1, 0, true), 1, "let a = 1 + 2 * 3; out a;");
        changed("out 1 + 2 * 3;", d -> d.draw(1, 0, false), 1, "let a = 1; out a + 2 * 3;");
        changed("out 1 + 2 * 3;", d -> d.draw(3, 0, true), 1, "let a = 2 * 3; out 1 + a;");
        changed("out(1);", d -> d.draw(1, 0, true), 1, "let a = (1); out a;");
        changed("out-1;", d -> d.draw(1, 0, true), 1, "let a = -1; out a;");
        changed("let a = 5;\n{let b = a/*x\n*/+1;out b;}", d -> d.draw(9, 2, true), 7,
            "let a = 5;\n{let c = a/*x\n*/+1; let b = c;out b;}");
        changed("let a = 1; a = a + 2;", d -> d.draw(7, 1, true), 6, "let a = 1; let b = a + 2; a = b;");
        changed("if 1 < 2 {out 1;}", d -> d.draw(1, 1, true), 1, "let b = 1 < 2; if b {out 1;}");
        changed("if 1 {out 2;}", d -> d.draw(4, 1, true), 4, "if 1 {let b = 2; out b;}");
        changed("fun f() {ret 1;} f();", d -> d.draw(6, 1, true), 6, "fun f() {let b = 1; ret b;} f();");
        changed("2 + 3;", d -> d.draw(2, 1, true), 1, "let b = 3; 2 + b;");
        changed("fun f(a) {ret a;} out 1 + f(2);", d -> d.draw(11, 1, false), 11,
            "fun f(a) {ret a;} let b = 1; out b + f(2);");
        changed("let a = 1; out a; out a;", d -> d.draw(6, 1, true), 6, "let a = 1; let b = a; out b; out a;");
    }

    private static void drawingNot() {
        String call = "fun f(a) {ret a;} out f(2 + 3) + 4;";
        idle(call, d -> d.draw(11, 1, true), -9);
        idle(call, d -> d.draw(13, 1, true), -9);
        idle(call, d -> d.draw(18, 1, true), -9);
        idle("fun f(a) {ret a;} out 1 + f(2);", d -> d.draw(11, 1, true), -9);
        idle("do 0 {out 1;}", d -> d.draw(1, 1, true), -9);
        idle("out 1 + 2;", d -> d.draw(0, 1, true), -9);
        idle("out 1 + 2;", d -> d.draw(2, 1, true), -9);
        idle("let a = 1; out 2; out a;", d -> d.draw(6, 0, true), -10 - 9);
        idle("fun f() {} out 2; f();", d -> d.draw(7, 5, true), -10 - 9);
        Bracketdesk desk = Typist.desk("out 1;");
        for (int word : new int[] {-1, 3}) {
            expect.thrown(desk, "draw " + word, IndexOutOfBoundsException.class, () -> desk.draw(word, 26, true));
        }
        for (int name : new int[] {-1, 26}) {
            expect.thrown(desk, "draw to " + name, IllegalArgumentException.class, () -> desk.draw(1, name, true));
        }
    }

    private static void puttingIn() {
        changed("let a = 1; out a;", d -> d.putIn(1), 6, "out 1;");
        changed("let a = 1; /*c*/ out a + 2;", d -> d.putIn(7), 10, "out 1 + 2;");
        changed("let a = 1 + 2;let b = a;out b;", d -> d.putIn(1), 20, "let b = 1 + 2;out b;");
        changed("let b = 0;let a = 1;b = a;out b;", d -> d.putIn(6), 22, "let b = 0;b = 1;out b;");
        changed("let a = 1;if a {out 2;}", d -> d.putIn(1), 13, "if 1 {out 2;}");
        changed("fun f() {let a = 1;ret a;} out f();", d -> d.putIn(6), 25, "fun f() {ret 1;} out f();");
        changed("fun f() {} let a = 1;a + f();", d -> d.putIn(7), 19, "fun f() {} 1 + f();");
    }

    private static void puttingInBrackets() {
        changed("let a = 1 + 2; out a * 2;", d -> d.putIn(1), 16, "out (1 + 2) * 2;");
        changed("let a = 1 + 2; out a + 2;", d -> d.putIn(1), 14, "out 1 + 2 + 2;");
        changed("let a = 1 + 2; out 2 + a;", d -> d.putIn(1), 16, "out 2 + (1 + 2);");
        changed("let a = 1 * 2; out 2 + a;", d -> d.putIn(1), 14, "out 2 + 1 * 2;");
        changed("let a = 1 < 2; out !a;", d -> d.putIn(1), 13, "out !(1 < 2);");
        changed("let a = -1; out -a;", d -> d.putIn(1), 8, "out --1;");
        changed("let a = (1); out(a);", d -> d.putIn(1), 9, "out((1));");
        changed("let a = 'x';out a;", d -> d.putIn(1), 8, "out 'x';");
    }

    private static void puttingInNot() {
        idle("let a = 1; out 2; out a;", d -> d.putIn(1), -9);
        idle("let a = 1; out a + a;", d -> d.putIn(1), -9);
        idle("let a = 1; a = 2;", d -> d.putIn(1), -9);
        idle("let a = 1; {out a;}", d -> d.putIn(1), -9);
        idle("let a = 1; if 1 {out a;}", d -> d.putIn(1), -9);
        idle("let a = 0; do a {}", d -> d.putIn(1), -9);
        idle("let a = 1;", d -> d.putIn(1), -9);
        idle("{let a = 1;} out 1;", d -> d.putIn(2), -9);
        idle("let a = 1; out a;", d -> d.putIn(0), -9);
        idle("fun f(a) {ret a;} let b = f(1); out b;", d -> d.putIn(11), -9);
        idle("fun f(a) {ret a;} let b = 1; out f(b);", d -> d.putIn(11), -9);
        idle("fun f(a) {ret a;} f(1);", d -> d.putIn(3), -9);
        idle("let a = 1 + 2; out -------a;", d -> d.putIn(1), -9);
        Bracketdesk desk = Typist.desk("let a = 1;out a;");
        for (int word : new int[] {-1, 8}) {
            expect.thrown(desk, "putIn " + word, IndexOutOfBoundsException.class, () -> desk.putIn(word));
        }
    }

    private static void turning() {
        changed("if 1 {out 1;} else {out 2;}", d -> d.turn(0), 28, "if !1 {out 2;} else {out 1;}");
        changed("if !1 {out 1;} else {out 2;}", d -> d.turn(0), 27, "if 1 {out 2;} else {out 1;}");
        changed("if(1){}/*c*/else{ {} }out 1;", d -> d.turn(0), 28, "if !(1) { {} } else {}out 1;");
        changed("if 1 < 2 {out 1;} else {}", d -> d.turn(0), 28, "if !(1 < 2) {} else {out 1;}");
        changed("if -1 {out 1;} else {}", d -> d.turn(0), 23, "if !-1 {} else {out 1;}");
        changed("{if !!'a' {out 1;} else {}}", d -> d.turn(1), 26, "{if !'a' {} else {out 1;}}");
        idle("if 1 {}", d -> d.turn(0), -9);
        idle("if 1 {} else {}", d -> d.turn(1), -9);
        idle("if -------1 {} else {}", d -> d.turn(0), -9);
        idle("if (((((((1))))))) + 1 {} else {}", d -> d.turn(0), -9);
        Bracketdesk desk = Typist.desk("if 1 {} else {}");
        for (int word : new int[] {-1, 7}) {
            expect.thrown(desk, "turn " + word, IndexOutOfBoundsException.class, () -> desk.turn(word));
        }
    }

    private static void pruning() {
        changed("let a = 1; out 2;", Bracketdesk::prune, 1, " out 2;");
        changed("let a = 1;let b = a;let c = b;out 1;", Bracketdesk::prune, 3, "out 1;");
        changed("fun f() {let a = 1;ret 2;} out f();{let b = 1;}", Bracketdesk::prune, 2, "fun f() {ret 2;} out f();{}");
        idle("let a = 1; a = 2;", Bracketdesk::prune, 0);
        idle("fun f() {} let a = f();", Bracketdesk::prune, 0);
        idle("", Bracketdesk::prune, 0);
    }

    private static void refining() {
        changed("out 7 + 0;", d -> d.refine(0), 1, "out 7;");
        changed("out 0 + 7;", d -> d.refine(1), 1, "out 7;");
        changed("out 7 * 1;", d -> d.refine(2), 1, "out 7;");
        changed("out 1 * 7;", d -> d.refine(3), 1, "out 7;");
        changed("out 7 - 0;", d -> d.refine(4), 1, "out 7;");
        changed("out--7;", d -> d.refine(5), 1, "out 7;");
        changed("out(7);", d -> d.refine(6), 1, "out 7;");
        changed("out(7 + 1)-(7+/*c*/1);", d -> d.refine(7), 1, "out 0;");
        changed("let a = 3; out 1 + a * 0;", d -> d.refine(8), 8, "let a = 3; out 1 + 0;");
        changed("out'a'=='a';", d -> d.refine(9), 1, "out 1;");
        changed("out 0 + (0 + 7);", d -> d.refine(1), 1, "out (0 + 7);");
        changed("out 5 - (0 + 7);", d -> d.refine(1), 4, "out 5 - (7);");
        changed("fun f() {} out f() + 0;", d -> d.refine(0), 7, "fun f() {} out f();");
        changed("out 1 /*c*/ + /*d*/ 0 ;", d -> d.refine(0), 1, "out 1 ;");
        idle("out 1;", d -> d.refine(0), -1);
        idle("fun f() {} out f() * 0; out f() - f(); out f() == f();", d -> d.refine(8), -1);
        idle("fun f() {} out f() * 0; out f() - f(); out f() == f();", d -> d.refine(7), -1);
        idle("fun f() {} out f() * 0; out f() - f(); out f() == f();", d -> d.refine(9), -1);
        Bracketdesk desk = Typist.desk("out 1 + 0;");
        for (int shape : new int[] {-1, 10}) {
            expect.thrown(desk, "refine " + shape, IllegalArgumentException.class, () -> desk.refine(shape));
            expect.thrown(desk, "find " + shape, IllegalArgumentException.class, () -> desk.find(shape, 0));
        }
    }

    private static void tooLong() {
        Bracketdesk desk = Typist.desk("if(1){}else{}let b = 1;out 2;out b;let c = 1;out c;");
        while (desk.desk(0) < 490) {
            desk.say(32);
            desk.say(14);
        }
        while (desk.desk(0) < 498) {
            desk.key(36);
        }
        expect.same("no faults", desk.desk(5), 0);
        expect.refused(desk, "turn", () -> desk.turn(0));
        expect.refused(desk, "draw", () -> desk.draw(15, 0, true));
        expect.refused(desk, "draw that would lose a word", () -> desk.draw(15, 1, true));
        expect.same("rename fits", desk.rename(10, 0), 2);
        expect.same("putIn fits", desk.putIn(21), 488);
        expect.same("now draw fits", desk.draw(15, 1, true), 15);
        expect.same("its size", desk.desk(0), 499);
    }

    private static void faultsRefuse() {
        String text = "if (1) {let a = 1 + 0;} else {} out zz;";
        idle(text, d -> d.rename(6, 0), -9);
        idle(text, d -> d.rename(6, 1), -9);
        idle(text, d -> d.draw(8, 0, true), -9);
        idle(text, d -> d.putIn(6), -9);
        idle(text, d -> d.turn(0), -9);
        idle(text, Bracketdesk::prune, -9);
        idle(text, d -> d.refine(0), -9);
        idle(text, d -> d.refine(9), -9);
    }

    /** Cursors, marks and folds go along with the one REPLACEMENT of what differs. */
    private static void followers() {
        Bracketdesk desk = Typist.desk("let ab = 1;\nout 2;\nout ab;\n{\n}");
        desk.at(0, 5);
        desk.mark(0);
        desk.also(1, 2);
        desk.also(2, 6);
        desk.also(3, 1);
        desk.fold(3, 4);
        desk.fold(0, 1);
        desk.drawn();
        expect.same("renamed", desk.rename(1, 2), 2);
        expect.same("the text", desk.all(), "let c = 1;\nout 2;\nout c;\n{\n}");
        expect.same("cursors between go to the begin", desk.cursors(), "4 23 26");
        expect.same("the mark, too", desk.jump(0), 4);
        expect.same("folds", Typist.ofLines(desk, 4), "-1 -1 -1 4 -1");
        expect.same("dirty", Typist.ofLines(desk, 5), "1 1 1 0 0");
        expect.same("read again", desk.desk(10), 3);
    }
}
