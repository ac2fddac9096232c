/** Counts the answers that are not the ones that are due, and prints them. */
final class Check {
    interface Call {
        long answer();
    }

    interface GateCall {
        long answer(SessionGate gate);
    }

    private static int wrong = 0;
    private static int looked = 0;

    private Check() {
    }

    static void due(String what, long got, long want) {
        due(what, Long.toString(got), Long.toString(want));
    }

    static void due(String what, String got, String want) {
        looked++;
        if (!got.equals(want)) {
            wrong++;
            System.out.println(what + " answered " + got + ", due is " + want);
        }
    }

    /** The answer as a text, or throws.X where the call throws X. */
    static String outcome(Call call) {
        try {
            return Long.toString(call.answer());
        } catch (RuntimeException e) {
            return "throws." + e.getClass().getSimpleName();
        }
    }

    /** The call throws that exception, and changes nothing that can be seen of a busy gate. */
    static void refuses(String what, String exception, GateCall call) {
        SessionGate gate = GateView.busyGate();
        String before = GateView.everything(gate);
        due(what, outcome(() -> call.answer(gate)), "throws." + exception);
        due("the state behind " + what, GateView.everything(gate), before);
    }

    static void end(String name) {
        System.out.println(name + ": " + looked + " looked at, " + wrong + " wrong");
        if (wrong != 0 || looked == 0) {
            System.exit(1);
        }
    }
}
