import java.io.IOException;
import java.lang.reflect.Method;
import java.lang.reflect.Modifier;
import java.nio.file.Files;
import java.nio.file.Path;

/** What README.md shows: each call of its example, and that its list of calls is whole. */
public final class ReadmeTest {
    private static final Expect expect = new Expect("ReadmeTest");

    public static void main(String[] args) throws IOException {
        example();
        everyCallIsNamed();
        expect.end();
    }

    private static void example() {
        Bracketdesk desk = new Bracketdesk();
        expect.same("say 15", desk.say(15), 4);
        expect.same("say 6", desk.say(6), 5);
        expect.same("say 9", desk.say(9), 8);
        expect.same("say 8", desk.say(8), 9);
        expect.same("say 14", desk.say(14), 10);
        expect.same("all", desk.all(), "out 1 + 0;");
        expect.same("run", desk.run(), "1");
        expect.same("refine 0", desk.refine(0), 1);
        expect.same("all, simpler", desk.all(), "out 1;");
        expect.same("undo", desk.undo(), 5);
        expect.thrown(desk, "fault 0 0", IndexOutOfBoundsException.class, () -> desk.fault(0, 0));
    }

    private static void everyCallIsNamed() throws IOException {
        String readme = Files.readString(Path.of("README.md"));
        int calls = 0;
        for (Method method : Bracketdesk.class.getDeclaredMethods()) {
            if (Modifier.isPublic(method.getModifiers())) {
                calls++;
                expect.same(method.getName() + " is named", readme.contains("`" + method.getName() + "`"), true);
            }
        }
        expect.same("the calls of the document's face", calls, 46);
    }
}
