/** Counts and prints the answers that are not the ones that are due. */
final class Due {
    interface Call {
        Object answer();
    }

    private int checks;
    private int wrong;

    void is(String what, Object got, Object want) {
        checks++;
        if (!want.equals(got)) {
            wrong++;
            System.out.println(what + ": answered " + got + ", due is " + want);
        }
    }

    /** The very class is asked for: a subclass would be thrown by the machine. */
    void isThrown(String what, ScoreSheaf sheaf, Class<? extends RuntimeException> want, Call call) {
        String before = State.of(sheaf);
        is(what, answerOf(call), "throws." + want.getSimpleName());
        is(what + ", state after it", State.of(sheaf), before);
    }

    /** The call's answer, or the name of what it throws. */
    static Object answerOf(Call call) {
        try {
            return call.answer();
        } catch (RuntimeException e) {
            return "throws." + e.getClass().getSimpleName();
        }
    }

    void end(String name) {
        System.out.println(name + ": " + checks + " checks, " + wrong + " wrong");
        System.exit(wrong == 0 && checks > 0 ? 0 : 1);
    }
}
