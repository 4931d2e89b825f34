/** Compares answers with those that are due, and tells at the end whether one was wrong. */
final class Due {
    interface Call {
        Object answer();
    }

    static final Class<IndexOutOfBoundsException> INDEX = IndexOutOfBoundsException.class;
    static final Class<IllegalArgumentException> ARGUMENT = IllegalArgumentException.class;
    static final Class<IllegalStateException> STATE = IllegalStateException.class;

    // A broken program is seen by its first wrong answers, and need not fill the screen.
    private static final int MOST_TOLD = 40;

    private int asked = 0;
    private int wrong = 0;

    static Object answerOf(Call call) {
        try {
            return call.answer();
        } catch (RuntimeException e) {
            return e.getClass();
        }
    }

    boolean is(Object want, String name, Call call) {
        Object got = answerOf(call);
        boolean isRight = want.equals(got);
        asked++;
        if (!isRight) {
            wrong++;
            if (wrong <= MOST_TOLD) {
                System.out.println(name + " answered " + got + ", due is " + want);
            }
        }
        return isRight;
    }

    /** As is(), and the yard must be as it was, too. */
    void fails(StonecutterYard yard, Object want, String name, Call call) {
        long before = yard.digest();
        is(want, name, call);
        is(before, "digest() after " + name, () -> yard.digest());
    }

    boolean isAllRight() {
        return wrong == 0;
    }

    void end() {
        System.out.println(asked + " answers, " + wrong + " not as due");
        if (wrong != 0) {
            System.exit(1);
        }
    }
}
