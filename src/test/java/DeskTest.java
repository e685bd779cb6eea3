/** Promises 26, 27, 39 and 42 to 47: what is kept, found, counted and summed up. */
public final class DeskTest {
    private static final Expect expect = new Expect("DeskTest");

    public static void main(String[] args) {
        finding();
        findingInFaults();
        saving();
        counting();
        knocking();
        cursorsTold();
        digests();
        expect.end();
    }

    private static void found(String text, int shape, String words) {
        Bracketdesk desk = Typist.desk(text);
        StringBuilder all = new StringBuilder();
        for (int i = 0; i < 20 && desk.find(shape, i) >= 0; i++) {
            all.append(i == 0 ? "" : " ").append(desk.find(shape, i));
        }
        expect.same("shape " + shape + " in " + text, all.toString(), words);
    }

    private static void finding() {
        found("out 1 + 0 + 0; out 0 + 00;", 0, "1 1");
        found("out 0 + 1; out 00 + 1; out (0) + 1;", 1, "1");
        found("out 2 * 1; out 1 * 1; out 2 * 01;", 2, "1 6");
        found("out 1 * 2; out 1 * 2 * 1;", 3, "1 6");
        found("out 3 - 0 - 0; out 0 - 3;", 4, "1 1");
        found("out ---1; out -!1; out !-1; out - - 1;", 5, "1 2 17");
        found("out ((1)); out ('a'); out (-1); out (1 + 1);", 6, "1 2 8");
        found("out 1 + 1 - (1 + 1); out (1) - (1); out 1 - 01;", 7, "12");
        found("out 0 * 0; out 0 * 1;", 8, "1");
        found("out 1 == 1; out 1 < 1; out 'a b' == 'a b'; out 'a b' == 'a  b';", 9, "1 11");
        found("let a = 1; out a /*c*/ - /*d*/ a;", 7, "6");
        Bracketdesk desk = Typist.desk("out 1;");
        expect.thrown(desk, "find -1", IllegalArgumentException.class, () -> desk.find(0, -1));
        expect.thrown(desk, "shape 10", IllegalArgumentException.class, () -> desk.find(10, 0));
        expect.thrown(desk, "shape -1", IllegalArgumentException.class, () -> desk.find(-1, 0));
        expect.same("not so many", desk.find(0, Integer.MAX_VALUE), -1);
    }

    private static void findingInFaults() {
        found("let a = + 0;", 0, "");
        found("let a = 0 +;", 1, "");
        found("let a = * 0;", 8, "");
        found("out - -;", 5, "");
        found("let a = ==;", 9, "");
        found("out (a", 6, "1");
        found("out (", 6, "");
        found("zz + 0 {", 0, "0");
    }

    private static void saving() {
        Bracketdesk desk = Typist.desk("out 1; out 2; out 3;");
        expect.same("all are others", desk.changed(), 3);
        expect.same("save", desk.save(), 3);
        expect.same("none is another", desk.changed(), 0);
        desk.at(0, 6);
        Typist.write(desk, "/*c*/ 'x';");
        expect.same("one more", desk.changed(), 1);
        desk.at(0, 0);
        Typist.write(desk, "out 1;");
        expect.same("one ahead is the same as the first", desk.changed(), 2);
        expect.same("save again", desk.save(), 5);
        desk.at(0, 11);
        desk.erase();
        expect.same("two are one, with faults", desk.changed(), 1);
        desk.go(6);
        desk.key(38);
        expect.same("a stray one", desk.changed(), 3);
        Bracketdesk twice = Typist.desk("out 1;out 1;");
        twice.save();
        Typist.write(twice, "out 1;");
        expect.same("none twice", twice.changed(), 1);
        Bracketdesk empty = Typist.desk("out 1;");
        empty.save();
        empty.undo();
        empty.undo();
        empty.undo();
        expect.same("nothing left", empty.changed(), 0);
        expect.same("save nothing", empty.save(), 0);
        Bracketdesk word = Typist.desk("ab;");
        word.save();
        word.at(0, 1);
        word.key(36);
        expect.same("the words are others", word.changed(), 2);
        Bracketdesk joined = Typist.desk("out ab;");
        joined.save();
        joined.at(0, 4);
        joined.erase();
        expect.same("as many signs in other words", joined.all() + joined.changed(), "outab;1");
    }

    private static void counting() {
        Bracketdesk desk = Typist.desk("let a = 1;\nfun f(b) {\nout c;\n}");
        desk.also(0, 0);
        desk.record(true);
        desk.key(36);
        desk.undo();
        desk.fold(1, 2);
        desk.knock();
        int[] want = {30, 4, 15, 7, 3, 1, 2, 1, 1, 4, 4, 20, 18, 1, 1, 1};
        for (int i = 0; i < want.length; i++) {
            expect.same("desk " + i, desk.desk(i), want[i]);
        }
        for (int what : new int[] {-1, 16}) {
            expect.thrown(desk, "desk " + what, IllegalArgumentException.class, () -> desk.desk(what));
        }
    }

    private static void knocking() {
        Bracketdesk desk = new Bracketdesk();
        for (int i = 1; i < 5; i++) {
            expect.same("knock", desk.knock(), i);
        }
        expect.same("no more than that", desk.desk(11) + desk.all(), "1");
    }

    private static void cursorsTold() {
        Bracketdesk desk = Typist.desk("abc\nd");
        expect.same("one", desk.cursors(), "5");
        desk.also(0, 2);
        desk.also(1, 0);
        expect.same("three", desk.cursors(), "2 4 5");
    }

    /** Promise 47, by the other promises: a checksum of all that they answer. */
    private static long sum(Bracketdesk desk, int[] marks) {
        long d = 5809;
        for (int i = 0; i < 16; i++) {
            d = d * 31 + desk.desk(i);
        }
        d = sumOf(d, desk.all());
        d = sumOfAll(d, Typist.ofLines(desk, 0).split(" ").length, 7, desk::ofLine);
        d = sumOfAll(d, desk.desk(2), 7, desk::ofWord);
        d = sumOfAll(d, desk.desk(3), 5, desk::node);
        d = sumOfAll(d, desk.desk(4), 5, desk::thing);
        d = sumOfAll(d, desk.desk(5), 2, desk::fault);
        d = sumOf(sumOf(sumOf(d, desk.outline()), desk.run()), desk.cursors());
        d = d * 31 + desk.changed();
        for (int mark : marks) {
            d = d * 31 + mark;
        }
        for (int i = 0; i < 10; i++) {
            d = d * 31 + desk.find(i, 0);
        }
        return d * 31 + (desk.isSound() ? 1 : 0);
    }

    interface Asked {
        int of(int number, int what);
    }

    private static long sumOfAll(long before, int count, int whats, Asked asked) {
        long d = before;
        for (int i = 0; i < count; i++) {
            for (int k = 0; k < whats; k++) {
                d = d * 31 + asked.of(i, k);
            }
        }
        return d;
    }

    private static long sumOf(long before, String text) {
        long d = before * 31 + text.length();
        for (int i = 0; i < text.length(); i++) {
            d = d * 31 + text.charAt(i);
        }
        return d;
    }

    private static void digests() {
        String[] texts = {"", "out 1 + 0;", "fun f(a) {\n ret a - a;\n}\nout f('x');/*", "let a = (1", "do 1 {out 5;}", "'", "{\n"};
        for (String text : texts) {
            Bracketdesk desk = Typist.desk(text);
            int[] marks = {-1, -1, desk.desk(0), -1};
            desk.mark(2);
            desk.go(0);
            expect.same("sound " + text, desk.isSound(), true);
            expect.same("digest of " + text, desk.digest(), sum(desk, marks));
            expect.same("digest again", desk.digest(), sum(desk, marks));
        }
        expect.same("digest of a new one", new Bracketdesk().digest(), -1341327551152785378L);
    }
}
