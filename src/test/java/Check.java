/** Counts the answers that are not the ones that are due, and prints them. */
final class Check {
    /** A call that may answer or throw. */
    interface Call {
        Object answer();
    }

    /** Such a call with a number that is put into it. */
    interface CallWith {
        Object answer(int number);
    }

    private static int wrong = 0;

    private Check() {
    }

    /** A call answers what is due; an exception counts as its name behind "throws.". */
    static void due(String what, Object want, Call call) {
        String got = String.valueOf(result(call));
        if (!got.equals(String.valueOf(want))) {
            wrong++;
            System.out.println(what + " answered " + got + ", due is " + want);
        }
    }

    /** A call of the ring, the only one that is made here, throws just this exception, and changes nothing. */
    static void dueThrow(Tape x, String what, Class<?> want, Call call) {
        int calls = x.length();
        due(what, "throws." + want.getName(), call);
        due(what + " is one call", calls + 1, x::length);
        due(what + " changes", Probe.NOTHING, () -> Probe.changeByTheLast(x));
    }

    /** A call throws so for the numbers next to a range, and for those that are farthest out of it. */
    static void dueThrowBeyond(Tape x, String what, Class<?> want, int low, int high, CallWith call) {
        for (int number : new int[] {Integer.MIN_VALUE, low - 1, high + 1, Integer.MAX_VALUE}) {
            dueThrow(x, what + " " + number, want, () -> call.answer(number));
        }
    }

    static Object result(Call call) {
        try {
            return call.answer();
        } catch (RuntimeException e) {
            return "throws." + e.getClass().getName();
        }
    }

    static void end() {
        System.out.println(wrong == 0 ? "all answers are as due" : wrong + " answers are not as due");
        System.exit(wrong == 0 ? 0 : 1);
    }
}
