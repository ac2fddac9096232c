/** Promises 15 and 16: session and count. */
public final class ViewTest {
    public static void main(String[] args) throws IllegalAccessException {
        Sentences.run(ViewTest.class);
    }

    private static void dueSession(SessionGate gate, int number, long user, long id, long began, long last) {
        Check.due("the user of " + number, gate.session(number, 0), user);
        Check.due("the id of " + number, gate.session(number, 1), id);
        Check.due("the beginning of " + number, gate.session(number, 2), began);
        Check.due("the last of " + number, gate.session(number, 3), last);
    }

    private static void dueNone(SessionGate gate, int number) {
        dueSession(gate, number, SessionGate.NONE, SessionGate.NONE, SessionGate.NONE, SessionGate.NONE);
    }

    @Sentence(promise = 15, says = "what = 0 its USER, 1 its ID, 2 its BEGINNING, 3 LAST")
    static void eachWhat() {
        SessionGate gate = Gates.busy();
        dueSession(gate, 0, 0, Reference.id(7, 0), 0, 0);
        dueSession(gate, 1, 7, Reference.id(7, 1), 10, 20);
    }

    @Sentence(promise = 15, says = "Of a SESSION 0 .. 7")
    static void eachNumber() {
        SessionGate gate = new SessionGate();
        for (int user = 0; user < 8; user++) {
            gate.user(user, 0, 0);
            gate.login(user, 0, 0);
            gate.pass(100);
        }
        for (int number = 0; number < 8; number++) {
            dueSession(gate, number, number, Reference.id(0, number), 100 * number, 100 * number);
        }
    }

    @Sentence(promise = 15, says = "2 its BEGINNING, 3 LAST")
    static void timesPastAnInt() {
        SessionGate gate = Gates.ofUser3();
        gate.pass(10_000_000_000L);
        Gates.login(gate);
        gate.pass(999_999);
        gate.request(false);
        dueSession(gate, 0, 3, Reference.id(0, 0), 10_000_000_000L, 10_000_999_999L);
    }

    @Sentence(promise = 15, says = "NONE if there is none")
    static void noneYet() {
        SessionGate gate = Gates.withSession();
        for (int number = 1; number < 8; number++) {
            dueNone(gate, number);
        }
    }

    @Sentence(promise = 15, says = "NONE if there is none")
    static void noneBehindLogout() {
        SessionGate gate = Gates.full();
        gate.logout();
        dueNone(gate, 7);
        dueSession(gate, 6, 3, Reference.id(0, 6), 0, 0);
    }

    @Sentence(promise = 15, says = "NONE if there is none")
    static void noneBehindRevoke() {
        SessionGate gate = Gates.full();
        gate.revoke(Gates.USER);
        for (int number = 0; number < 8; number++) {
            dueNone(gate, number);
        }
    }

    @Sentence(promise = 15, says = "NONE if there is none")
    static void noneBehindOldOrIdle() {
        SessionGate gate = Gates.full();
        gate.pass(1_000_000);
        gate.request(false);
        dueNone(gate, 7);
        Gates.login(gate);
        dueNone(gate, 1);
    }

    @Sentence(promise = 15, says = "NONE if there is none")
    static void oldAndIdleOnesAreThere() {
        SessionGate gate = Gates.stale();
        dueSession(gate, 0, 0, Reference.id(7, 0), 0, 0);
        dueSession(gate, 1, 7, Reference.id(7, 1), 10, 20);
    }

    @Sentence(promise = 15, says = "IllegalArgument.")
    static void numberOutside() {
        for (int wrong : Wrong.SESSIONS) {
            for (int what = 0; what < 4; what++) {
                int asked = what;
                Check.refuses("session(" + wrong + ", " + what + ")", Check.IAE, gate -> gate.session(wrong, asked));
            }
        }
    }

    @Sentence(promise = 15, says = "IllegalArgument.")
    static void whatOutside() {
        for (int wrong : new int[] {-1, 4, 5, 256, -4, Integer.MIN_VALUE, Integer.MAX_VALUE}) {
            Check.refuses("session(0, " + wrong + ")", Check.IAE, gate -> gate.session(0, wrong));
            Check.refuses("session(1, " + wrong + ")", Check.IAE, gate -> gate.session(1, wrong));
        }
    }

    @Sentence(promise = 15, says = "IllegalArgument.")
    static void whatOutsideOfNoSession() {
        for (int wrong : new int[] {-1, 4, Integer.MIN_VALUE, Integer.MAX_VALUE}) {
            Check.refuses("session(7, " + wrong + ")", Check.IAE, gate -> gate.session(7, wrong));
            Check.refuses("session(8, " + wrong + ")", Check.IAE, gate -> gate.session(8, wrong));
        }
    }

    @Sentence(promise = 16, says = "What = 0 SESSIONS")
    static void sessionsUpToEight() {
        SessionGate gate = Gates.ofUser3();
        for (int sessions = 0; sessions < 8; sessions++) {
            Check.due("sessions", gate.count(0), sessions);
            Gates.login(gate);
        }
        Check.due("sessions", gate.count(0), 8);
        Gates.login(gate);
        Check.due("behind FULL", gate.count(0), 8);
        gate.logout();
        Check.due("behind logout", gate.count(0), 7);
        gate.revoke(Gates.USER);
        Check.due("behind revoke", gate.count(0), 0);
    }

    @Sentence(promise = 16, says = "(OLD and IDLE ones too, that have not ended)")
    static void oldOnesCount() {
        SessionGate gate = Gates.full();
        gate.limits(1, 1, 1_000_000);
        gate.pass(1);
        Check.due("sessions", gate.count(0), 8);
        gate.request(false);
        Check.due("behind OLD", gate.count(0), 7);
    }

    @Sentence(promise = 16, says = "(OLD and IDLE ones too, that have not ended)")
    static void idleOnesCount() {
        SessionGate gate = Gates.full();
        gate.limits(1, 1_000_000, 1);
        gate.pass(1);
        Check.due("sessions", gate.count(0), 8);
        gate.request(false);
        Check.due("behind IDLE", gate.count(0), 7);
    }

    @Sentence(promise = 16, says = "1 how many there were since the SEED")
    static void sessionsSinceTheSeed() {
        SessionGate gate = Gates.full();
        Check.due("at first", gate.count(1), 8);
        gate.revoke(Gates.USER);
        Check.due("behind revoke", gate.count(1), 8);
        Gates.login(gate);
        Check.due("behind login", gate.count(1), 9);
        gate.seed(0);
        Check.due("behind seed", gate.count(1), 0);
    }

    @Sentence(promise = 16, says = "2 REQUESTS let in, 3 refused (both with logout)")
    static void letInAndRefused() {
        SessionGate gate = Gates.withSession();
        gate.request(true);
        gate.request(false);
        Check.due("let in", gate.count(2), 2);
        Check.due("refused", gate.count(3), 0);
        gate.logout();
        Check.due("let in with logout", gate.count(2), 3);
        Check.due("refused still", gate.count(3), 0);
        gate.request(true);
        gate.request(false);
        Check.due("refused now", gate.count(3), 2);
        gate.logout();
        Check.due("refused with logout", gate.count(3), 3);
        Check.due("let in still", gate.count(2), 3);
    }

    @Sentence(promise = 16, says = "2 REQUESTS let in, 3 refused (both with logout)")
    static void everyRefusalCounts() {
        SessionGate gate = Gates.withSession(1000, 100, 50);
        String cookie = GateView.text(gate, 0);
        String[] cookies = {"", Reference.cookie(1, Reference.ZERO_KEY, 3, 1),
            Reference.cookie(0, Reference.key(1, 2, 3, 4), 3, 1), Reference.cookie(0, Reference.ZERO_KEY, 3, 1)};
        int refused = 0;
        for (String other : cookies) {
            GateView.write(gate, 0, other);
            gate.request(true);
            refused++;
            Check.due("FORM, KEY, SEAL, GONE in turn", gate.count(3), refused);
        }
        GateView.write(gate, 0, cookie);
        gate.put(1, 0, 1);
        Check.due("WRONG", gate.request(true), SessionGate.WRONG);
        Check.due("WRONG counts", gate.count(3), 5);
        gate.pass(50);
        Check.due("IDLE", gate.request(true), SessionGate.IDLE);
        Check.due("IDLE counts", gate.count(3), 6);
        Gates.login(gate);
        gate.pass(100);
        Check.due("OLD", gate.request(true), SessionGate.OLD);
        Check.due("OLD counts", gate.count(3), 7);
        Check.due("none was let in", gate.count(2), 0);
    }

    @Sentence(promise = 16, says = "2 REQUESTS let in, 3 refused (both with logout)")
    static void loginsAreNoRequests() {
        SessionGate gate = Gates.full();
        gate.login(Gates.USER, 0, 0);
        Gates.login(gate);
        Check.due("let in", gate.count(2), 0);
        Check.due("refused", gate.count(3), 0);
    }

    @Sentence(promise = 16, says = "4 RENEWED")
    static void renewed() {
        SessionGate gate = Gates.withSession();
        for (int times = 1; times <= 5; times++) {
            gate.change(times, 0, 0, 0);
            Check.due("not by change", gate.count(4), times - 1);
            gate.request(times % 2 == 0);
            gate.request(times % 2 == 0);
            Check.due("once for each change", gate.count(4), times);
        }
        gate.change(0, 0, 0, 0);
        Gates.login(gate);
        Check.due("not by login", gate.count(4), 5);
        gate.change(0, 0, 0, 0);
        gate.logout();
        Check.due("not by logout", gate.count(4), 5);
    }

    @Sentence(promise = 16, says = "5 LIVE KEYS")
    static void liveKeys() {
        SessionGate gate = new SessionGate();
        gate.limits(10, 1, 1);
        int[] live = {1, 2, 3, 4, 4, 4};
        for (int want : live) {
            Check.due("live keys", gate.count(5), want);
            gate.change(1, 1, 1, 1);
        }
        gate.pass(9);
        Check.due("one before GRACE", gate.count(5), 4);
        gate.pass(1);
        Check.due("at GRACE", gate.count(5), 1);
        gate.change(2, 2, 2, 2);
        Check.due("behind another change", gate.count(5), 2);
    }

    @Sentence(promise = 16, says = "6 the NEWEST one's number")
    static void theNewestOnesNumber() {
        SessionGate gate = new SessionGate();
        Check.due("at first", gate.count(6), 0);
        for (int number = 1; number <= 255; number++) {
            gate.change(0, 0, 0, 0);
        }
        Check.due("the largest", gate.count(6), 255);
        gate.change(0, 0, 0, 0);
        Check.due("behind it", gate.count(6), 0);
    }

    @Sentence(promise = 16, says = "IllegalArgument.")
    static void countOutside() {
        for (int wrong : new int[] {-1, 7, 8, 256, -6, Integer.MIN_VALUE, Integer.MAX_VALUE}) {
            Check.refuses("count(" + wrong + ")", Check.IAE, gate -> gate.count(wrong));
        }
    }

    @Sentence(promise = 16, says = "(OLD and IDLE ones too, that have not ended)")
    static void lookingChangesNothing() {
        SessionGate gate = Gates.stale();
        String before = GateView.seen(gate);
        Check.due("all that is seen, looked at again", GateView.seen(gate), before);
    }
}
