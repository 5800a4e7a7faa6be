/** Counts the answers that are not as due; a test ends with end(). */
final class Check {
    interface Call {
        int answer();
    }

    private int wrong;

    void is(String call, int got, int want) {
        if (got != want) {
            tell(call + " answered " + got + ", due is " + want);
        }
    }

    void gives(String call, Call made, int want) {
        try {
            is(call, made.answer(), want);
        } catch (RuntimeException e) {
            tell(call + " threw " + e.getClass().getSimpleName() + ", due is " + want);
        }
    }

    void fails(String call, Class<? extends RuntimeException> want, Call made) {
        try {
            tell(call + " answered " + made.answer() + ", due is " + want.getSimpleName());
        } catch (RuntimeException e) {
            if (e.getClass() != want) {
                tell(call + " threw " + e.getClass().getSimpleName() + ", due is " + want.getSimpleName());
            }
        }
    }

    void refused(String call, Call made) {
        fails(call, IllegalArgumentException.class, made);
    }

    void forbidden(String call, Call made) {
        fails(call, IllegalStateException.class, made);
    }

    void stopped(String call, Call made) {
        fails(call, UnsupportedOperationException.class, made);
    }

    void tooDeep(String call, Call made) {
        fails(call, ArithmeticException.class, made);
    }

    void end() {
        if (wrong != 0) {
            System.out.println(wrong + " answers are not as due");
            System.exit(1);
        }
    }

    void tell(String text) {
        wrong++;
        System.out.println(text);
    }
}
