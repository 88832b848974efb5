/** Counts and prints the answers that are not as due. */
final class Due {
    /** A call whose answer is wanted. */
    interface Call {
        long answer();
    }

    private int wrong = 0;
    private int asked = 0;

    /** What a call answers, or the exact class that it throws. */
    static String told(Call call) {
        try {
            return Long.toString(call.answer());
        } catch (RuntimeException e) {
            return "throws." + e.getClass().getSimpleName();
        }
    }

    void is(String what, String got, String want) {
        asked++;
        if (!got.equals(want)) {
            wrong++;
            System.out.println(what + " answered " + got + ", due is " + want);
        }
    }

    void is(String what, long want, Call call) {
        is(what, told(call), Long.toString(want));
    }

    void throwsIndex(String what, Call call) {
        is(what, told(call), "throws.IndexOutOfBoundsException");
    }

    void throwsTurn(String what, Call call) {
        is(what, told(call), "throws.IllegalStateException");
    }

    void throwsRange(String what, Call call) {
        is(what, told(call), "throws.IllegalArgumentException");
    }

    void throwsMeaning(String what, Call call) {
        is(what, told(call), "throws.UnsupportedOperationException");
    }

    boolean isAllRight() {
        return wrong == 0;
    }

    void end() {
        System.out.println(asked + " answers, " + wrong + " not as due");
        if (wrong != 0) {
            System.exit(1);
        }
    }
}
