import java.util.Random;

/**
 * Two desks, one of which gets only the calls that are neither REFUSED nor throw nor only ask: all that they answer
 * afterwards is the same, as the other calls change nothing.
 */
public final class TwinsTest {
    private static final Expect expect = new Expect("TwinsTest");
    private static final String[] ASKING = {
        "text 0", "all", "ofLine 0 3", "word 0", "ofWord 0 4", "node 0 3", "thing 0 2", "uses 0", "fault 0 1", "outline",
        "complete 0 true", "complete 1 false", "find 6 0", "run", "ran 0", "cursors", "changed", "desk 10", "isSound",
        "digest"};
    private static final String[] WRONG = {
        "key 53", "key -1", "say 36", "say -1", "go 8", "go -1", "at 40 0", "at 0 501", "also -1 0", "play 0", "play 4",
        "mark 4", "jump -1", "redo -1", "fold 0 0", "fold 40 41", "foldBlock 40", "open -1", "indent 5", "rename -1 0",
        "rename 0 26", "draw 0 26 true", "draw 500 0 true", "putIn -1", "turn 500", "refine 10"};
    private static final String[] OFTEN_REFUSED = {
        "undo", "redo 0", "redo 1", "redo 9", "foldBlock 0", "foldBlock 1", "turn 0", "prune", "refine 0", "refine 1",
        "refine 6", "refine 7", "indent 1", "indent 0", "erase"};

    private final Random random;
    private final Caller one = new Caller();
    private final Caller other = new Caller();

    private TwinsTest(int seed) {
        random = new Random(seed);
    }

    public static void main(String[] args) {
        for (int seed = 0; seed < 200; seed++) {
            new TwinsTest(seed).live(seed);
        }
        expect.end();
    }

    private void live(int seed) {
        int kept = 0;
        for (int i = 0; i < 380; i++) {
            String line = line();
            String answer = one.call(line);
            boolean isIdle = answer.equals("-9") || answer.startsWith("throws") || isAsking(line);
            if (!isIdle) {
                expect.same("seed " + seed + " call " + i + " " + line, other.call(line), answer);
                kept++;
            }
            if (i % 20 == 0) {
                expect.same("seed " + seed + " digest at " + i, other.call("digest"), one.call("digest"));
            }
        }
        expect.same("seed " + seed + " some calls did something", kept > 20, true);
        for (String line : new String[] {"record false", "play 1", "undo", "undo", "redo 0", "undo", "redo 0", "changed"}) {
            expect.same("seed " + seed + " at last " + line, other.call(line), one.call(line));
            expect.same("seed " + seed + " digest behind " + line, other.call("digest"), one.call("digest"));
        }
    }

    private static boolean isAsking(String line) {
        for (String asking : ASKING) {
            if (asking.equals(line)) {
                return true;
            }
        }
        return false;
    }

    private static String oneOf(String[] lines, Random random) {
        return lines[random.nextInt(lines.length)];
    }

    private String line() {
        int kind = random.nextInt(100);
        if (kind < 40) {
            return "say " + random.nextInt(36);
        }
        if (kind < 48) {
            return "key " + (random.nextInt(3) == 0 ? 52 : random.nextInt(53));
        }
        if (kind < 58) {
            return oneOf(ASKING, random);
        }
        if (kind < 68) {
            return oneOf(WRONG, random);
        }
        if (kind < 80) {
            return oneOf(OFTEN_REFUSED, random);
        }
        return other(random.nextInt(14));
    }

    private String other(int kind) {
        int a = random.nextInt(6);
        int b = random.nextInt(12);
        switch (kind) {
            case 0: return "go " + random.nextInt(8);
            case 1: return "at " + a + " " + b;
            case 2: return "also " + a + " " + b;
            case 3: return "lone";
            case 4: return "leap";
            case 5: return "record " + random.nextBoolean();
            case 6: return "play " + (1 + random.nextInt(3));
            case 7: return "mark " + random.nextInt(4);
            case 8: return "fold " + a + " " + (a + 1 + random.nextInt(3));
            case 9: return "rename " + b + " " + a;
            case 10: return "draw " + b + " " + a + " " + random.nextBoolean();
            case 11: return "putIn " + b;
            case 12: return "save";
            default: return "drawn";
        }
    }
}
