/** Counts the answers of a test, prints each one that is not as due, and ends the program by them. */
final class Check {
    private int right = 0;
    private int wrong = 0;

    /** A call that is due to throw an exception. */
    interface Call {
        void make();
    }

    void due(String call, long got, long want) {
        count(got == want, call + " answered " + got + ", due is " + want);
    }

    void due(String call, boolean got, boolean want) {
        count(got == want, call + " answered " + got + ", due is " + want);
    }

    void due(String call, double got, double want) {
        count(Double.compare(got, want) == 0, call + " answered " + got + ", due is " + want);
    }

    void due(String call, String got, String want) {
        count(got.equals(want), call + " answered " + got + ", due is " + want);
    }

    /** The call is due to throw just this kind of exception, and to change nothing of x. */
    void dueThrows(String call, IntervalSolver x, Class<? extends RuntimeException> kind, Call made) {
        String before = State.of(x);
        dueThrows(call, kind, made);
        due("the state behind " + call, State.of(x), before);
    }

    /** The call is due to throw just this kind of exception. */
    void dueThrows(String call, Class<? extends RuntimeException> kind, Call made) {
        String thrown = "nothing";
        try {
            made.make();
        } catch (RuntimeException e) {
            thrown = isOfTheMachine(e) ? "by itself" : e.getClass().getSimpleName();
        }
        due(call + " throws", thrown, kind.getSimpleName());
    }

    /** No call may throw but by a throw statement, even where the document wants that exception. */
    private static boolean isOfTheMachine(RuntimeException e) {
        return "/ by zero".equals(e.getMessage());
    }

    void index(String call, IntervalSolver x, Call made) {
        dueThrows(call, x, IndexOutOfBoundsException.class, made);
    }

    void argument(String call, IntervalSolver x, Call made) {
        dueThrows(call, x, IllegalArgumentException.class, made);
    }

    void arithmetic(String call, IntervalSolver x, Call made) {
        dueThrows(call, x, ArithmeticException.class, made);
    }

    void end() {
        System.out.println(right + " answers are as due, " + wrong + " are not");
        if (wrong != 0 || right == 0) {
            System.exit(1);
        }
    }

    private void count(boolean isRight, String text) {
        if (isRight) {
            right++;
        } else {
            wrong++;
            System.out.println(text);
        }
    }
}
