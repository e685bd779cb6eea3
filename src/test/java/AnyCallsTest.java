import java.util.Random;
import java.util.Set;

/** Any calls with any arguments: only exceptions that the document names, and a desk that stays sound. */
public final class AnyCallsTest {
    private static final Expect expect = new Expect("AnyCallsTest");
    private static final Set<String> NAMED = Set.of(
        "throws java.lang.IllegalArgumentException",
        "throws java.lang.IndexOutOfBoundsException",
        "throws java.lang.IllegalStateException");
    private static final String[] PLAIN = {
        "erase", "lone", "leap", "undo", "prune", "save", "drawn", "all", "outline", "run", "cursors", "changed",
        "knock"};
    private static final String[] WITH_NUMBER = {
        "go", "play", "mark", "jump", "redo", "foldBlock", "open", "indent", "putIn", "turn", "refine", "text", "word",
        "uses", "ran", "desk"};
    private static final String[] WITH_NUMBERS = {
        "at", "also", "fold", "rename", "ofLine", "ofWord", "node", "thing", "fault", "find"};
    private static final int[] FAR = {Integer.MIN_VALUE, Integer.MAX_VALUE, -1, 1000, 512};

    private final Random random;
    private final Caller caller = new Caller();

    private AnyCallsTest(int seed) {
        random = new Random(seed);
    }

    public static void main(String[] args) {
        for (int seed = 0; seed < 150; seed++) {
            new AnyCallsTest(seed).calls(seed);
        }
        expect.end();
    }

    private void calls(int seed) {
        for (int i = 0; i < 512; i++) {
            String line = line();
            String answer = caller.call(line);
            boolean isNamed = !answer.startsWith("throws") || NAMED.contains(answer);
            expect.same("seed " + seed + " call " + i + " " + line + " answers " + answer, isNamed, true);
            if (i % 8 == 0) {
                expect.same("seed " + seed + " call " + i + " sound", caller.desk.isSound(), true);
                undoAndBack(seed, i);
            }
        }
    }

    /** To the parent and back, the TEXT is the same. */
    private void undoAndBack(int seed, int call) {
        Bracketdesk desk = caller.desk;
        String text = desk.all();
        int state = desk.desk(12);
        if (desk.undo() < 0) {
            return;
        }
        boolean isBack = false;
        for (int i = 0; i < desk.desk(13) && !isBack; i++) {
            isBack = desk.redo(i) == state;
            if (!isBack) {
                desk.undo();
            }
        }
        expect.same("seed " + seed + " call " + call + " back again", desk.all(), text);
    }

    private String line() {
        int kind = random.nextInt(100);
        if (kind < 40) {
            return "say " + random.nextInt(36);
        }
        if (kind < 55) {
            return "key " + (random.nextInt(30) == 0 ? number() : random.nextInt(53));
        }
        if (kind < 65) {
            return PLAIN[random.nextInt(PLAIN.length)];
        }
        if (kind < 80) {
            return WITH_NUMBER[random.nextInt(WITH_NUMBER.length)] + " " + number();
        }
        if (kind < 95) {
            return WITH_NUMBERS[random.nextInt(WITH_NUMBERS.length)] + " " + number() + " " + number();
        }
        String[] last = {
            "record " + random.nextBoolean(),
            "draw " + number() + " " + number() + " " + random.nextBoolean(),
            "complete " + number() + " " + random.nextBoolean()};
        return last[random.nextInt(last.length)];
    }

    private int number() {
        int kind = random.nextInt(20);
        return kind == 0 ? FAR[random.nextInt(FAR.length)] : random.nextInt(kind < 12 ? 6 : 60);
    }
}
