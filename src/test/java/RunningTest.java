/** Promises 40 and 41: run and ran. */
public final class RunningTest {
    private static final Expect expect = new Expect("RunningTest");

    public static void main(String[] args) {
        values();
        statements();
        calls();
        variables();
        cuts();
        faults();
        expect.end();
    }

    private static void run(String text, String out, int steps) {
        Bracketdesk desk = Typist.desk(text);
        expect.same("run of " + text, desk.run(), out);
        expect.same("steps of " + text, desk.ran(0), steps);
        int values = out.isEmpty() || out.equals("~") ? 0 : out.split(" ").length;
        expect.same("values of " + text, desk.ran(1), values);
        expect.same("cut of " + text, desk.ran(2), out.endsWith("~") ? 1 : 0);
        expect.idle(desk, "it changes nothing", out, desk::run);
    }

    private static void values() {
        run("", "", 0);
        run("out 7; out 'x y'; out '';", "7 3 0", 3);
        run("out 1 + 2 * 3; out (1 + 2) * 3; out 7 - 2 - 1;", "7 9 4", 3);
        run("out 1 < 2; out 2 < 2; out 2 == 2; out 1 == 2; out 3 < 2 < 1;", "1 0 1 0 1", 5);
        run("out -3; out - -3; out !0; out !5; out !!5; out -!0;", "-3 3 1 0 1 -1", 6);
        run("let a = 999999 * 999999; out a; out a * a;", "-729379967 -15640831", 3);
        run("let a = 65536 * 32767 + 65535; out a; out a + 1; out -a - 1; out -(-a - 1);",
            "2147483647 -2147483648 -2147483648 -2147483648", 5);
    }

    private static void statements() {
        run("let a = 1; a = a + 1; out a; a;", "2", 4);
        run("if 1 {out 1;} else {out 2;} if 0 {out 3;} else {out 4;} if 0 {out 5;}", "1 4", 7);
        run("{out 1;} {{}}", "1", 4);
        run("let a = 3; do a {out a; a = a - 1;}", "3 2 1", 11);
        run("do 0 {out 1;}", "", 1);
        run("fun f() {out 1;}", "", 1);
    }

    private static void calls() {
        run("fun f(a) {ret a * 2;} out f(f(3));", "12", 8);
        run("fun f() {} out f() + 1;", "1", 4);
        run("fun f() {ret 1; out 2;} out f();", "1", 5);
        run("fun f() {do 1 {if 1 {ret 7;}}} out f();", "7", 9);
        run("fun f(a, b) {out a; ret b;} out f(f(1, 2), f(3, 4));", "1 3 2 4", 14);
        run("out f(4); fun f(a) {if a < 2 {ret 1;} ret a * f(a - 1);}", "24", 19);
        run("fun f(a, a) {out a; ret a;} out f(1, 2);", "2 2", 6);
    }

    private static void variables() {
        run("let a = 1; fun f(a) {a = a + 1; ret a;} out f(5); out a;", "6 1", 8);
        run("let a = 1; fun f() {a = a + 1;} f(); f(); out a;", "3", 11);
        run("fun f(a) {let b = a; if a {f(a - 1);} out b;} f(2);", "0 1 2", 21);
        run("fun f(a) {fun g() {a = a + 1;} g(); g(); ret a;} out f(1);", "3", 14);
        run("fun f() {let b = 0; {let c = 0; b = b + 1; ret b;}} out f() + f();", "2", 16);
        run("fun f() {g(); let b = 5; fun g() {out b;} g();} f(); f();", "0 5 0 5", 27);
        run("g(); let b = 5; fun g() {out b;} g();", "0 5", 10);
        run("do 0 {} {let a = 1; out a;} fun f(a) {if a {let b = a; ret f(0);} {let b = 1; out b;}} f(2);", "1 1", 18);
    }

    private static void cuts() {
        run("do 1 {}", "~", 300);
        run("do 1 {out 1;}", "1 ".repeat(149).trim() + "~", 300);
        run("fun f() {ret f();} out f();", "~", 20);
        run("out 1; fun f(a) {out a; f(a + 1);} f(1);", "1 1 2 3 4 5 6~", 27);
        run("fun f(a) {ret a;} out f(f(f(f(f(f(f(1)))))));", "1", 23);
        run("fun f(a) {if a {ret f(a - 1);} ret 9;} out f(5);", "9", 31);
        run("fun f(a) {if a {ret f(a - 1);} ret 9;} out f(6);", "~", 32);
        run("let a = 148; do a {a = a - 1;} out 1;", "1", 299);
        run("let a = 148; do a {a = a - 1;} {} out 1;", "1", 300);
        run("let a = 148; do a {a = a - 1;} {{}} out 1;", "~", 300);
    }

    private static void faults() {
        Bracketdesk desk = Typist.desk("out 1; out a;");
        expect.same("with faults", desk.run(), "?");
        for (int i = 0; i < 3; i++) {
            expect.same("with faults, ran " + i, desk.ran(i), -1);
        }
        for (int what : new int[] {-1, 3}) {
            expect.thrown(desk, "ran " + what, IllegalArgumentException.class, () -> desk.ran(what));
        }
        desk.undo();
        desk.undo();
        desk.undo();
        expect.same("without them", desk.run(), "1");
    }
}
