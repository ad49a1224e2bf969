/** Counts the answers that are not the ones that are due, and prints them. */
final class Check {
    /** A call that may answer or throw. */
    interface Call {
        Object answer();
    }

    private static int wrong = 0;

    private Check() {
    }

    /** A call answers what is due; an exception counts as its name behind "throws.". */
    static void due(String what, Object want, Call call) {
        String got = String.valueOf(result(call));
        if (!got.equals(String.valueOf(want))) {
            wrong++;
            System.out.println(what + " answered " + got + ", due is " + want);
        }
    }

    /** A call throws just this exception. */
    static void dueThrow(String what, Class<?> want, Call call) {
        due(what, "throws." + want.getName(), call);
    }

    /** A call throws just this exception, and the ring tells the same as ahead of it. */
    static void dueThrow(CypherRing x, String what, Class<?> want, Call call) {
        String before = Ring.told(x);
        dueThrow(what, want, call);
        due(what + " changed nothing", true, () -> Ring.told(x).equals(before));
    }

    static Object result(Call call) {
        try {
            return call.answer();
        } catch (RuntimeException e) {
            return "throws." + e.getClass().getName();
        }
    }

    static void end() {
        System.out.println(wrong == 0 ? "all answers are as due" : wrong + " answers are not as due");
        System.exit(wrong == 0 ? 0 : 1);
    }
}
