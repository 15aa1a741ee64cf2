/** Compares answers with what is due, prints those that differ, and ends a test. */
final class Check {
    interface Call {
        Object run();
    }

    private static int wrong = 0;
    private static String subject = "";

    private Check() {
    }

    /** What the answers that come now are about; it is printed ahead of those that differ. */
    static void about(String what) {
        subject = what + ": ";
    }

    static void due(String what, Object got, Object want) {
        if (!want.equals(got)) {
            wrong++;
            System.out.println(subject + what + " answered " + got + ", due is " + want);
        }
    }

    /** What a call answers, or the name of the very class that it throws. */
    static String answer(Call call) {
        try {
            return String.valueOf(call.run());
        } catch (RuntimeException e) {
            return "throws." + e.getClass().getSimpleName();
        }
    }

    static void throwsIt(String what, Class<?> due, Call call) {
        due(what, answer(call), "throws." + due.getSimpleName());
    }

    static void throwsIndex(String what, Call call) {
        throwsIt(what, IndexOutOfBoundsException.class, call);
    }

    static void throwsArgument(String what, Call call) {
        throwsIt(what, IllegalArgumentException.class, call);
    }

    static void throwsState(String what, Call call) {
        throwsIt(what, IllegalStateException.class, call);
    }

    static void throwsUnsupported(String what, Call call) {
        throwsIt(what, UnsupportedOperationException.class, call);
    }

    static void end() {
        System.out.println(wrong == 0 ? "all answers are as due" : wrong + " answers are not as due");
        if (wrong != 0) {
            System.exit(1);
        }
    }
}
