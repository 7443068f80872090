/** Counts and prints the answers that are not the ones that are due. */
final class Due {
    interface Call {
        Object answer();
    }

    private int checks;
    private int wrong;

    void is(String what, Object got, Object want) {
        checks++;
        if (!want.equals(got)) {
            wrong++;
            System.out.println(what + ": answered " + got + ", due is " + want);
        }
    }

    /** One test of several answers; what it lets through is a wrong answer, and the next test goes on. */
    void test(String what, Runnable body) {
        try {
            body.run();
        } catch (RuntimeException e) {
            is(what + " in " + e.getStackTrace()[0], "throws." + e.getClass().getSimpleName(), "no exception");
        }
    }

    /** The call's answer, or the name of what it throws; a subclass, as the machine throws, has another name. */
    static Object answerOf(Call call) {
        try {
            return call.answer();
        } catch (RuntimeException e) {
            return "throws." + e.getClass().getSimpleName();
        }
    }

    void end(String name) {
        System.out.println(name + ": " + checks + " checks, " + wrong + " wrong");
        System.exit(wrong == 0 && checks > 0 ? 0 : 1);
    }
}
