import java.util.function.Supplier;

/** Counts the answers that are not the ones that are due, and prints them. */
final class Check {
    static final String IAE = "IllegalArgumentException";
    static final String ISE = "IllegalStateException";
    static final String IOOBE = "IndexOutOfBoundsException";

    interface Call {
        long answer();
    }

    interface GateCall {
        long answer(SessionGate gate);
    }

    interface GateOrder {
        void give(SessionGate gate);
    }

    private static int wrong = 0;
    private static int looked = 0;

    private Check() {
    }

    static int wrong() {
        return wrong;
    }

    static int looked() {
        return looked;
    }

    static void due(String what, long got, long want) {
        due(what, Long.toString(got), Long.toString(want));
    }

    static void due(String what, String got, String want) {
        looked++;
        if (!got.equals(want)) {
            wrong++;
            System.out.println(what + " answered " + got + ", due is " + want);
        }
    }

    /** The answer as a text, or throws.X where the call throws X. */
    static String outcome(Call call) {
        try {
            return Long.toString(call.answer());
        } catch (RuntimeException e) {
            return "throws." + e.getClass().getSimpleName();
        }
    }

    /** The call throws that exception on a busy gate, and changes nothing. */
    static void refuses(String what, String exception, GateCall call) {
        refuses(what, exception, Gates::busy, call);
    }

    /** The same of a call that answers nothing. */
    static void refusesOrder(String what, String exception, GateOrder order) {
        refuses(what, exception, Gates::busy, gate -> {
            order.give(gate);
            return 0;
        });
    }

    /** The call throws that exception; a twin of the gate, without the call, answers all else alike. */
    static void refuses(String what, String exception, Supplier<SessionGate> maker, GateCall call) {
        SessionGate gate = maker.get();
        due(what, outcome(() -> call.answer(gate)), "throws." + exception);
        due("the state behind " + what, GateView.everything(gate), GateView.everything(maker.get()));
    }

    static void end(String name) {
        System.out.println(name + ": " + looked + " looked at, " + wrong + " wrong");
        if (wrong != 0 || looked == 0) {
            System.exit(1);
        }
    }
}
