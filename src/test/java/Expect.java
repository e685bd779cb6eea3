import java.util.Objects;

/** Counts what is not as expected, and ends a test with exit code 1 if there was any. */
final class Expect {
    private final String test;
    private int checks;
    private int wrong;

    Expect(String test) {
        this.test = test;
    }

    void same(String what, Object got, Object want) {
        checks++;
        if (!Objects.equals(got, want)) {
            wrong++;
            System.out.println(test + ": " + what + ": got <" + got + ">, want <" + want + ">");
        }
    }

    interface Call {
        Object make();
    }

    /** The call must throw just this, and change nothing. */
    void thrown(Bracketdesk desk, String what, Class<? extends RuntimeException> want, Call call) {
        long before = desk.digest();
        Object got;
        try {
            got = call.make();
        } catch (RuntimeException e) {
            got = e.getClass();
        }
        same(what, got, want);
        same(what + " changes nothing", desk.digest(), before);
    }

    /** The call must answer this, and change nothing. */
    void idle(Bracketdesk desk, String what, Object want, Call call) {
        long before = desk.digest();
        same(what, call.make(), want);
        same(what + " changes nothing", desk.digest(), before);
    }

    void refused(Bracketdesk desk, String what, Call call) {
        idle(desk, what, -9, call);
    }

    void end() {
        System.out.println(test + ": " + checks + " checks, " + wrong + " wrong");
        if (wrong > 0) {
            System.exit(1);
        }
    }
}
