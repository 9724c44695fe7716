/** What the tests share: checks that count, tell what is wrong, and end with exit code 1 if anything was. */
final class Checks {
    interface Call {
        Object run();
    }

    private static int done;
    private static int wrong;

    private Checks() {
    }

    static void same(String what, Object want, Object got) {
        done++;
        if (!want.equals(got)) {
            wrong++;
            System.out.println(what + ": answered " + got + ", due is " + want);
        }
    }

    /** The very class counts: an ArrayIndexOutOfBoundsException is not the exception that the document names. */
    static void refuses(String what, Class<? extends RuntimeException> want, Call call) {
        same(what, want.getSimpleName(), answer(call));
    }

    /** The answer of a call as a text, or the name of the exception that it throws. */
    static String answer(Call call) {
        try {
            return String.valueOf(call.run());
        } catch (RuntimeException e) {
            return e.getClass().getSimpleName();
        }
    }

    static void end(String name) {
        System.out.println(name + ": " + done + " checks, " + wrong + " wrong");
        if (wrong > 0 || done == 0) {
            System.exit(1);
        }
    }
}
