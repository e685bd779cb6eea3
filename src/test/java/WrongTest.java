/**
 * Every promise that throws: the first arguments that are wrong on each side, the last ones that are right, which
 * exception comes first, and that nothing has changed.
 */
public final class WrongTest {
    private static final Expect expect = new Expect("WrongTest");
    private static final String BOUNDS = "throws java.lang.IndexOutOfBoundsException";
    private static final String ARGUMENT = "throws java.lang.IllegalArgumentException";
    private static final String STATE = "throws java.lang.IllegalStateException";
    // 3 LINES of 10, 10 and 1 SIGNS; 12 WORDS, 5 NODES, 3 THINGS
    private static final String PLAIN = "let a = 1;\nfun f(b) {\n}";
    // 2 FAULTS, 3 WORDS
    private static final String FAULTY = "out b";

    private static Bracketdesk desk;

    public static void main(String[] args) {
        ofTyping();
        ofPlaces();
        ofRecords();
        ofHistoryAndFolds();
        ofChanges();
        ofLinesAndWords();
        ofTree();
        ofOthers();
        aheadOfRefused();
        expect.end();
    }

    private static void wrong(String exception, String... calls) {
        Caller caller = new Caller();
        caller.desk = desk;
        for (String call : calls) {
            long before = desk.digest();
            expect.same(call, caller.call(call), exception);
            expect.same(call + " changes nothing", desk.digest(), before);
        }
    }

    /** Each on a desk of its own, as it may change something. */
    private static void right(String text, String... calls) {
        for (String call : calls) {
            Caller caller = new Caller();
            caller.desk = Typist.desk(text);
            expect.same(call + " throws", caller.call(call).startsWith("throws"), false);
        }
    }

    private static String[] withEach(String name, int... numbers) {
        String[] calls = new String[numbers.length];
        for (int i = 0; i < numbers.length; i++) {
            calls[i] = name + " " + numbers[i];
        }
        return calls;
    }

    private static String[] below0And(String name, int first) {
        return withEach(name, -1, Integer.MIN_VALUE, first, first + 1, Integer.MAX_VALUE);
    }

    private static void ofTyping() {
        desk = Typist.desk(PLAIN);
        wrong(ARGUMENT, below0And("key", 53));
        right(PLAIN, withEach("key", 0, 52));
        wrong(ARGUMENT, below0And("say", 36));
        right(PLAIN, withEach("say", 0, 35));
        wrong(ARGUMENT, below0And("go", 8));
        right(PLAIN, withEach("go", 0, 7));
        wrong(ARGUMENT, below0And("mark", 4));
        right(PLAIN, withEach("mark", 0, 3));
        wrong(ARGUMENT, below0And("jump", 4));
        right(PLAIN, withEach("jump", 0, 3));
    }

    private static void ofPlaces() {
        desk = Typist.desk(PLAIN);
        for (String name : new String[] {"at", "also"}) {
            wrong(BOUNDS, name + " -1 0", name + " 3 0", name + " -1 -1", name + " 2147483647 0", name + " -2147483648 0");
            wrong(BOUNDS, name + " 0 -1", name + " 0 11", name + " 1 11", name + " 2 2", name + " 2 2147483647");
            right(PLAIN, name + " 0 0", name + " 0 10", name + " 1 10", name + " 2 0", name + " 2 1");
        }
        Typist.cursorsAt(desk, 0, 1, 2, 3);
        wrong(STATE, "also 0 4", "also 2 1");
        wrong(BOUNDS, "also -1 0", "also 3 0", "also 0 11", "also 2 -1");
        expect.same("one that is there", desk.also(0, 3), 4);
    }

    private static void ofRecords() {
        desk = Typist.desk(PLAIN);
        wrong(ARGUMENT, below0And("play", 4));
        wrong(ARGUMENT, "play 0");
        right(PLAIN, "play 1", "play 3");
        desk.record(true);
        wrong(ARGUMENT, "play 0", "play 4", "play -1");
        wrong(STATE, "play 1", "play 3");
        desk.key(0);
        wrong(STATE, "play 1", "play 2");
        wrong(ARGUMENT, "key 53", "say 36", "go 8");
        expect.same("what throws is not recorded", desk.record(false), 1);
        expect.same("now it is played", desk.play(1), 1);
    }

    private static void ofHistoryAndFolds() {
        desk = Typist.desk(PLAIN);
        wrong(ARGUMENT, withEach("redo", -1, Integer.MIN_VALUE));
        right(PLAIN, withEach("redo", 0, Integer.MAX_VALUE));
        wrong(BOUNDS, "fold -1 1", "fold 3 4", "fold 0 3", "fold 2 3", "fold -2147483648 1", "fold 0 2147483647");
        wrong(ARGUMENT, "fold 0 0", "fold 2 2", "fold 1 0", "fold 2 0");
        wrong(BOUNDS, "fold 3 0", "fold 3 3", "fold -1 -1", "fold 0 -1", "fold 4 3");
        right(PLAIN, "fold 0 1", "fold 0 2", "fold 1 2");
        wrong(BOUNDS, below0And("foldBlock", 3));
        right(PLAIN, withEach("foldBlock", 0, 2));
        wrong(BOUNDS, below0And("open", 3));
        right(PLAIN, withEach("open", 0, 2));
        wrong(ARGUMENT, below0And("indent", 5));
        right(PLAIN, withEach("indent", 0, 4));
    }

    private static void ofChanges() {
        for (String text : new String[] {PLAIN, FAULTY}) {
            desk = Typist.desk(text);
            int words = desk.desk(2);
            for (String last : new String[] {"", " true", " false"}) {
                String name = last.isEmpty() ? "rename " : "draw ";
                wrong(BOUNDS, name + "-1 0" + last, name + words + " 0" + last, name + "2147483647 0" + last);
                wrong(BOUNDS, name + "-1 -1" + last, name + words + " 26" + last, name + "-2147483648 26" + last);
                wrong(ARGUMENT, name + "0 -1" + last, name + "0 26" + last, name + (words - 1) + " 26" + last);
                wrong(ARGUMENT, name + "1 2147483647" + last, name + "1 -2147483648" + last);
                right(text, name + "0 0" + last, name + (words - 1) + " 25" + last, name + "1 25" + last);
            }
            wrong(BOUNDS, below0And("putIn", words));
            right(text, withEach("putIn", 0, words - 1));
            wrong(BOUNDS, below0And("turn", words));
            right(text, withEach("turn", 0, words - 1));
            wrong(ARGUMENT, below0And("refine", 10));
            right(text, withEach("refine", 0, 9));
        }
    }

    private static void ofLinesAndWords() {
        desk = Typist.desk(PLAIN);
        wrong(BOUNDS, below0And("text", 3));
        right(PLAIN, withEach("text", 0, 2));
        wrong(BOUNDS, "ofLine -1 0", "ofLine 3 0", "ofLine -1 7", "ofLine 3 -1", "ofLine 2147483647 0");
        wrong(ARGUMENT, "ofLine 0 -1", "ofLine 0 7", "ofLine 2 7", "ofLine 2 -2147483648", "ofLine 0 2147483647");
        right(PLAIN, "ofLine 0 0", "ofLine 2 6");
        wrong(BOUNDS, below0And("word", 12));
        right(PLAIN, withEach("word", 0, 11));
        wrong(BOUNDS, "ofWord -1 0", "ofWord 12 0", "ofWord -1 7", "ofWord 12 -1", "ofWord 2147483647 0");
        wrong(ARGUMENT, "ofWord 0 -1", "ofWord 0 7", "ofWord 11 7", "ofWord 11 -2147483648", "ofWord 0 2147483647");
        right(PLAIN, "ofWord 0 0", "ofWord 11 6");
    }

    private static void ofTree() {
        desk = Typist.desk(PLAIN);
        wrong(BOUNDS, "node -1 0", "node 5 0", "node -1 5", "node 5 -1", "node 2147483647 0");
        wrong(ARGUMENT, "node 0 -1", "node 0 5", "node 4 5", "node 4 -2147483648", "node 0 2147483647");
        right(PLAIN, "node 0 0", "node 4 4");
        wrong(BOUNDS, "thing -1 0", "thing 3 0", "thing -1 5", "thing 3 -1", "thing 2147483647 0");
        wrong(ARGUMENT, "thing 0 -1", "thing 0 5", "thing 2 5", "thing 2 -2147483648", "thing 0 2147483647");
        right(PLAIN, "thing 0 0", "thing 2 4");
        wrong(BOUNDS, below0And("uses", 3));
        right(PLAIN, withEach("uses", 0, 2));
        wrong(BOUNDS, "fault 0 0", "fault 0 2", "fault -1 0", "fault -1 2");
        desk = Typist.desk(FAULTY);
        wrong(BOUNDS, "fault 2 0", "fault 2 2", "fault -1 0", "fault -1 -1", "fault 2147483647 0");
        wrong(ARGUMENT, "fault 0 -1", "fault 0 2", "fault 1 2", "fault 1 2147483647");
        right(FAULTY, "fault 0 0", "fault 1 1");
    }

    private static void ofOthers() {
        desk = Typist.desk(PLAIN);
        for (String last : new String[] {" true", " false"}) {
            wrong(ARGUMENT, "complete -1" + last, "complete -2147483648" + last);
            right(PLAIN, "complete 0" + last, "complete 2147483647" + last);
        }
        wrong(ARGUMENT, "find -1 0", "find 10 0", "find 0 -1", "find 9 -1", "find 10 -1", "find -1 -2147483648");
        right(PLAIN, "find 0 0", "find 9 0", "find 9 2147483647");
        wrong(ARGUMENT, below0And("ran", 3));
        right(PLAIN, withEach("ran", 0, 2));
        wrong(ARGUMENT, below0And("desk", 16));
        right(PLAIN, withEach("desk", 0, 15));
        desk = Typist.desk(FAULTY);
        wrong(ARGUMENT, below0And("ran", 3));
    }

    /** "Exceptions go ahead of REFUSED": on a desk that refuses all changes. */
    private static void aheadOfRefused() {
        desk = Typist.filled("let a = 1 + 0;out a;if a {} else {}", 499);
        Typist.makeStates(desk, 299);
        desk.key(0);
        desk.key(36);
        expect.same("500 signs and 300 states", desk.desk(0) + " " + desk.desk(11), "500 300");
        wrong(ARGUMENT, "key -1", "key 53", "say -1", "say 36", "redo -1", "indent -1", "indent 5", "refine -1", "refine 10");
        wrong(ARGUMENT, "rename 1 26", "rename 0 -1", "draw 3 26 true", "draw 0 -1 false", "play 0", "play 4");
        wrong(BOUNDS, "rename -1 0", "draw -1 0 true", "putIn -1", "turn -1", "foldBlock -1", "foldBlock 1");
        int words = desk.desk(2);
        wrong(BOUNDS, "rename " + words + " 0", "draw " + words + " 0 true", "putIn " + words, "turn " + words);
    }
}
