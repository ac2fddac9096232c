/** Promise 1: a new object. */
public final class NewObjectTest {
    public static void main(String[] args) throws IllegalAccessException {
        Sentences.run(NewObjectTest.class);
    }

    @Sentence(promise = 1, says = "TIMES are milliseconds, NOW 0 at first.")
    static void nowIs0() {
        Check.due("now behind pass(1)", new SessionGate().pass(1), 1);
        SessionGate gate = Gates.withSession();
        Check.due("a session's beginning", gate.session(0, 2), 0);
        Check.due("a session's last", gate.session(0, 3), 0);
    }

    @Sentence(promise = 1, says = "no SESSIONS")
    static void noSessions() {
        SessionGate gate = new SessionGate();
        for (int number = 0; number < 8; number++) {
            for (int what = 0; what < 4; what++) {
                Check.due("session(" + number + ", " + what + ")", gate.session(number, what), SessionGate.NONE);
            }
            Check.due("revoke(" + number + ")", gate.revoke(number), 0);
        }
        Check.due("sessions", gate.count(0), 0);
        Check.due("sessions there were", gate.count(1), 0);
    }

    @Sentence(promise = 1, says = "no PASSWORDS")
    static void noPasswords() {
        SessionGate gate = new SessionGate();
        for (int user = 0; user < 8; user++) {
            Check.due("login(" + user + ", 0, 0)", gate.login(user, 0, 0), SessionGate.BAD);
            Check.due("login(" + user + ", -1, -1)", gate.login(user, -1, -1), SessionGate.BAD);
        }
    }

    @Sentence(promise = 1, says = "empty TEXTS")
    static void emptyTexts() {
        for (int which = 0; which < 2; which++) {
            Check.due("sign(" + which + ", 0)", new SessionGate().sign(which, 0), SessionGate.NONE);
            Check.due("erase(" + which + ")", new SessionGate().erase(which), 0);
            Check.due("type(" + which + ", 65)", new SessionGate().type(which, 65, 0, 0, 0), 1);
        }
        Check.due("request", new SessionGate().request(false), SessionGate.FORM);
    }

    @Sentence(promise = 1, says = "the SEED is 0")
    static void seedIs0() {
        Check.due("the first id", Gates.withSession().session(0, 1), Reference.id(0, 0));
        SessionGate told = Gates.ofUser3();
        told.seed(0);
        Gates.login(told);
        Check.due("the first id of seed 0", told.session(0, 1), Reference.id(0, 0));
    }

    @Sentence(promise = 1, says = "KEY 0, of zeros, is there at first.")
    static void keyOfZeros() {
        SessionGate gate = new SessionGate();
        Check.due("the newest one's number", gate.count(6), 0);
        Check.due("live keys", gate.count(5), 1);
        byte[] mac = Reference.mac(Reference.ZERO_KEY, new byte[0]);
        for (int k = 0; k < 32; k++) {
            Check.due("octet(" + k + ")", gate.octet(k), mac[k] & 255);
        }
        long id = Reference.id(0, 0);
        Check.due("the texts", GateView.texts(Gates.withSession()),
                Reference.texts(0, Reference.ZERO_KEY, Gates.USER, id));
    }

    @Sentence(promise = 1, says = "(GRACE, MOST, REST are 1,000,000 at first.)")
    static void graceIsAMillion() {
        SessionGate gate = new SessionGate();
        gate.change(1, 2, 3, 4);
        gate.pass(999_999);
        Check.due("live keys at 999,999", gate.count(5), 2);
        gate.pass(1);
        Check.due("live keys at 1,000,000", gate.count(5), 1);
    }

    @Sentence(promise = 1, says = "(GRACE, MOST, REST are 1,000,000 at first.)")
    static void mostIsAMillion() {
        SessionGate gate = Gates.withSession();
        gate.pass(500_000);
        gate.request(false);
        gate.pass(499_999);
        Check.due("request at 999,999", gate.request(false), 0);
        gate.pass(1);
        Check.due("request at 1,000,000", gate.request(false), SessionGate.OLD);
    }

    // LAST is never before the beginning, so a REST above MOST would not show: only a shorter one does.
    @Sentence(promise = 1, says = "(GRACE, MOST, REST are 1,000,000 at first.)")
    static void restIsAMillion() {
        SessionGate gate = Gates.withSession();
        gate.pass(999_999);
        Check.due("request at 999,999", gate.request(false), 0);
    }

    @Sentence(promise = 1, says = "As said")
    static void nothingIsCounted() {
        Check.due("counts", GateView.counts(new SessionGate()), "0 0 0 0 0 1 0 ");
    }

    @Sentence(promise = 1, says = "`SessionGate()`")
    static void objectsShareNothing() {
        SessionGate first = new SessionGate();
        String before = GateView.seen(first);
        SessionGate other = Gates.busy();
        String busy = GateView.seen(other);
        Check.due("the first one beside a busy one", GateView.seen(first), before);
        Check.due("one made behind a busy one", GateView.seen(new SessionGate()), before);
        first.pass(5);
        first.change(9, 9, 9, 9);
        first.user(0, 8, 8);
        first.login(0, 8, 8);
        Check.due("the busy one", GateView.seen(other), busy);
    }

    @Sentence(promise = 1, says = "An object is used for at most 512 calls after it has been made")
    static void the512thCall() {
        SessionGate gate = Gates.withSession();
        for (int call = 3; call <= 511; call++) {
            Check.due("call " + call, gate.request(true), 0);
        }
        Check.due("call 512", gate.count(2), 509);
    }
}
