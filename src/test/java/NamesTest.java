/** Promises 34, 35, 37 and 38: THINGS, what NAMES mean, outline and completion. */
public final class NamesTest {
    private static final Expect expect = new Expect("NamesTest");

    public static void main(String[] args) {
        things();
        meanings();
        faults();
        outlines();
        completion();
        completionScopes();
        wrongInputs();
        expect.end();
    }

    private static String thing(Bracketdesk desk, int thing) {
        StringBuilder all = new StringBuilder();
        for (int i = 0; i < 5; i++) {
            all.append(i == 0 ? "" : " ").append(desk.thing(thing, i));
        }
        return all.toString();
    }

    private static void things() {
        Bracketdesk desk = Typist.desk("let a = 1; fun f(a, b) {let c = a; {out c;} fun g() {}} f(a, 1);");
        expect.same("how many", desk.desk(4), 6);
        expect.same("a variable", thing(desk, 0), "0 1 2 1 -1");
        expect.same("a function", thing(desk, 1), "2 6 2 1 2");
        expect.same("a parameter", thing(desk, 2), "1 8 2 2 -1");
        expect.same("one that is not used", thing(desk, 3), "1 10 1 2 -1");
        expect.same("a variable in a function", thing(desk, 4), "0 14 2 3 -1");
        expect.same("a function in a function", thing(desk, 5), "2 24 1 3 0");
        expect.same("uses", desk.uses(0), "1 32");
        expect.same("uses", desk.uses(1), "6 30");
        expect.same("uses", desk.uses(2), "8 16");
        expect.same("one use", desk.uses(3), "10");
    }

    private static void meant(String text, String things) {
        Bracketdesk desk = Typist.desk(text);
        StringBuilder all = new StringBuilder();
        for (int i = 0; i < desk.desk(2); i++) {
            if (desk.ofWord(i, 0) == 0) {
                all.append(all.length() == 0 ? "" : " ").append(desk.ofWord(i, 4));
            }
        }
        expect.same("meanings in " + text, all.toString(), things);
    }

    private static void meanings() {
        meant("out a; let a = 1; out a;", "-1 0 0");
        meant("let a = 1; let a = a; a = a;", "0 1 0 1 1");
        meant("let a = 1; {let a = 2; out a;} out a;", "0 1 1 0");
        meant("let a = 1; {out a; let a = 2;} out a;", "0 0 1 0");
        meant("fun f(a) {out a; let a = 1; out a;}", "0 1 1 2 2");
        meant("fun f(a, a) {out a;}", "0 1 2 2");
        meant("f(); fun f() {} fun f() {} f();", "0 0 1 0");
        meant("fun f() {f();} {f(); fun f() {}}", "0 0 1 1");
        meant("fun f() {} let f = 1; f();", "0 1 1");
        meant("f(); fun f() {} let f = 1;", "0 0 1");
        meant("if 1 {let a = 1;} else {out a;} out a;", "0 -1 -1");
        meant("fun f(a) {} out a;", "0 1 -1");
        meant("fun f(ab) {out ab; out a; out abc;}", "0 1 1 -1 -1");
        meant("fun f a) {out a;}", "0 1 1");
    }

    private static void faults() {
        expect.same("unknown", Typist.faults(Typist.desk("out a + f(1); b = 1;")), "9@1 9@3 9@8");
        expect.same("no variable", Typist.faults(Typist.desk("fun f() {} out f; f = 1;")), "10@7 10@9");
        expect.same("no function", Typist.faults(Typist.desk("let a = 1; a(1);")), "11@5");
        expect.same("arguments", Typist.faults(Typist.desk("fun f(a) {} f(); f(1, 2); f(1);")), "12@7 12@11");
        expect.same("outside", Typist.faults(Typist.desk("ret 1; {ret 2;} fun f() {{ret 3;}}")), "13@0 13@4");
        expect.same("open", Typist.faults(Typist.desk("out '")), "14@1 2@2");
        expect.same("open, and closed", Typist.faults(Typist.desk("out 'a\n;out 'a';")), "14@1");
        expect.same("comment", Typist.faults(Typist.desk("out 1;/*\n")), "15@4");
        expect.same("alike ones once", Typist.faults(Typist.desk("((")), "2@2 6@2 7@2");
    }

    private static void outlines() {
        expect.same("none", Typist.desk("out 1;").outline(), "");
        expect.same("one in another", Typist.desk("fun f() {fun g() {}} fun h() {}").outline(), "f[g] h");
        expect.same("deeper", Typist.desk("fun a() {fun b() {fun c() {} fun d() {}}} fun e() {}").outline(), "a[b[c d]] e");
        expect.same("in blocks", Typist.desk("{fun a() {if 1 {fun b() {}}}} fun c() {}").outline(), "a[b] c");
        expect.same("without names", Typist.desk("fun () {fun {}} fun").outline(), "?[?] ?");
        expect.same("up by two", Typist.desk("fun a() {fun b() {fun c() {}} fun d() {}}").outline(), "a[b[c] d]");
    }

    private static String offers(Bracketdesk desk, boolean isFunction) {
        StringBuilder all = new StringBuilder();
        for (int i = 0; i < 50; i++) {
            String name = desk.complete(i, isFunction);
            if (name.isEmpty()) {
                break;
            }
            all.append(i == 0 ? "" : " ").append(name);
        }
        return all.toString();
    }

    private static void completion() {
        Bracketdesk desk = Typist.desk("let ab = 1; let b = 2; let ac = 3; let ab = 4; fun aa() {} fun ab() {} a");
        expect.same("variables that begin so", offers(desk, false), "ab ac");
        expect.same("functions that begin so", offers(desk, true), "aa");
        desk.key(1);
        expect.same("a longer begin", offers(desk, false), "ab");
        expect.same("that name is a variable's", offers(desk, true), "");
        desk.key(36);
        expect.same("no letters", offers(desk, false), "ab ac b");
        desk.key(26);
        expect.same("a digit is no letter", offers(desk, false), "ab ac b");
        desk.at(0, 10);
        expect.same("a let that has not ended", offers(desk, false), "");
        desk.at(0, 11);
        expect.same("a let that has", offers(desk, false), "ab");
        desk.at(0, 0);
        expect.same("functions wherever", offers(desk, true), "aa ab");
        desk.also(0, 60);
        expect.same("at the first cursor", offers(desk, false), "");
    }

    private static void completionScopes() {
        Bracketdesk desk = Typist.desk("let a = 1; fun f(b, c) {let d = 1; {let e = 2;} } ");
        expect.same("behind all", offers(desk, false), "a");
        desk.at(0, 49);
        expect.same("behind the block", offers(desk, false), "a");
        desk.at(0, 48);
        expect.same("in the function", offers(desk, false), "d c b a");
        desk.at(0, 46);
        expect.same("in the inner block", offers(desk, false), "e d c b a");
        desk.at(0, 35);
        expect.same("ahead of the inner block", offers(desk, false), "d c b a");
        desk.at(0, 19);
        expect.same("in the parameters", offers(desk, false), "c b a");
        desk.at(0, 11);
        expect.same("ahead of the function", offers(desk, false), "a");
        Bracketdesk open = Typist.desk("fun f(b) {let d = 1; /*c*/ ");
        expect.same("a block that lacks its end", offers(open, false), "d b");
        expect.same("its parameter alone", offers(Typist.desk("fun f(b) {"), false), "b");
        expect.same("of a function without name", offers(Typist.desk("fun (b) {"), false), "b");
        expect.same("parameters of one name", offers(Typist.desk("fun f(b, c, b) {"), false), "b c");
        Bracketdesk none = Typist.desk("fun f(b) ");
        expect.same("a function that lacks its block", offers(none, false), "");
        expect.same("but it is there", offers(none, true), "f");
        Bracketdesk broken = Typist.desk("let a = ");
        expect.same("a let that ends early", offers(broken, false), "a");
        Bracketdesk hidden = Typist.desk("fun a() {} {let a = 1; ");
        expect.same("a variable ahead of a function", offers(hidden, true), "");
    }

    private static void wrongInputs() {
        Bracketdesk desk = Typist.desk("let a = 1;");
        for (int i : new int[] {-1, 1}) {
            expect.thrown(desk, "thing " + i, IndexOutOfBoundsException.class, () -> desk.thing(i, 7));
            expect.thrown(desk, "uses " + i, IndexOutOfBoundsException.class, () -> desk.uses(i));
        }
        for (int what : new int[] {-1, 5}) {
            expect.thrown(desk, "thing of " + what, IllegalArgumentException.class, () -> desk.thing(0, what));
        }
        expect.thrown(desk, "complete -1", IllegalArgumentException.class, () -> desk.complete(-1, true));
        expect.same("without so many", desk.complete(1, false), "");
        expect.same("far without so many", desk.complete(Integer.MAX_VALUE, false), "");
    }
}
