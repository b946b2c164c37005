/** What the tests share: a count of wrong answers, and ways to hold a call against what is due. */
final class Due {
    interface Call {
        Object go();
    }

    static final Class<?> INDEX = IndexOutOfBoundsException.class;
    static final Class<?> ARGUMENT = IllegalArgumentException.class;
    static final Class<?> STATE = IllegalStateException.class;
    static final Class<?> UNSUPPORTED = UnsupportedOperationException.class;
    static final Class<?> NO_ELEMENT = java.util.NoSuchElementException.class;
    static final Class<?> ARITHMETIC = ArithmeticException.class;

    private static int wrong;
    private static int asked;

    private Due() {
    }

    /** The answer must equal what is due; a due class means that the call throws exactly that exception. */
    static void is(String what, Object due, Call call) {
        asked++;
        Object got;
        try {
            got = call.go();
        } catch (RuntimeException e) {
            got = isThrownByCode(e) ? e.getClass() : "a throw of the machine: " + e;
        }
        if (!due.equals(got)) {
            wrong++;
            System.out.println(what + " answered " + got + ", due is " + due);
        }
    }

    /** The class throws by its own throw statements; what the machine or its library throws begins elsewhere. */
    static boolean isThrownByCode(Throwable e) {
        StackTraceElement[] trace = e.getStackTrace();
        return trace.length > 0 && trace[0].getClassName().startsWith("Valvekeeper")
            && !"/ by zero".equals(e.getMessage());
    }

    static void allOf(String what, Object due, Call... calls) {
        for (int i = 0; i < calls.length; i++) {
            is(what + ", number " + i, due, calls[i]);
        }
    }

    static int asked() {
        return asked;
    }

    static void end() {
        System.out.println(asked + " answers, " + wrong + " wrong");
        if (wrong != 0) {
            System.exit(1);
        }
    }
}
