/** Promise 9: logout. */
public final class LogoutTest {
    private static final byte[] ZERO = Reference.ZERO_KEY;
    private static final byte[] KEY_ONE = Reference.key(1, 2, 3, 4);
    private static final long ID = Reference.id(0, 0);

    public static void main(String[] args) throws IllegalAccessException {
        Sentences.run(LogoutTest.class);
    }

    /** Logout is refused so, which counts and changes nothing else. */
    private static void dueRefused(SessionGate gate, int why) {
        String sessions = GateView.sessions(gate);
        String texts = GateView.texts(gate);
        int refused = gate.count(3);
        Check.due("logout", gate.logout(), why);
        Check.due("refused requests", gate.count(3), refused + 1);
        Check.due("requests let in", gate.count(2), 0);
        Check.due("the sessions", GateView.sessions(gate), sessions);
        Check.due("the texts", GateView.texts(gate), texts);
    }

    private static SessionGate bearing(String cookie) {
        SessionGate gate = Gates.withSession();
        GateView.write(gate, 0, cookie);
        return gate;
    }

    @Sentence(promise = 9, says = "if it is let in, its SESSION ends")
    static void itsSessionEnds() {
        SessionGate gate = Gates.withSession();
        Gates.login(gate);
        Check.due("logout", gate.logout(), 1);
        Check.due("it ended", gate.session(1, 0), SessionGate.NONE);
        Check.due("the other one stays", gate.session(0, 0), Gates.USER);
        Check.due("requests let in", gate.count(2), 1);
        Check.due("requests refused", gate.count(3), 0);
    }

    @Sentence(promise = 9, says = "if it is let in, its SESSION ends")
    static void eachOfEightSessions() {
        for (int number = 0; number < 8; number++) {
            SessionGate gate = Gates.full();
            long id = Reference.id(0, number);
            GateView.write(gate, 0, Reference.cookie(0, ZERO, Gates.USER, id));
            GateView.write(gate, 1, Reference.token(0, ZERO, Gates.USER, id));
            Check.due("logout", gate.logout(), number);
            Check.due("sessions", gate.count(0), 7);
            Check.due("it ended", gate.session(number, 0), SessionGate.NONE);
            Check.due("its number is free", Gates.login(gate), number);
        }
    }

    @Sentence(promise = 9, says = "if it is let in, its SESSION ends")
    static void twiceIsGone() {
        SessionGate gate = Gates.withSession();
        Check.due("logout", gate.logout(), 0);
        Check.due("logout again", gate.logout(), SessionGate.GONE);
        Check.due("requests let in", gate.count(2), 1);
        Check.due("requests refused", gate.count(3), 1);
    }

    @Sentence(promise = 9, says = "(it is not RENEWED)")
    static void notRenewed() {
        SessionGate gate = Gates.withSession();
        gate.change(1, 2, 3, 4);
        String texts = GateView.texts(gate);
        Check.due("logout under an older key", gate.logout(), 0);
        Check.due("the texts", GateView.texts(gate), texts);
        Check.due("renewed", gate.count(4), 0);
    }

    @Sentence(promise = 9, says = "A REQUEST that is to change something")
    static void itNeedsTheToken() {
        SessionGate gate = Gates.withSession();
        gate.pass(5);
        gate.erase(1);
        dueRefused(gate, SessionGate.WRONG);
    }

    @Sentence(promise = 9, says = "A REQUEST that is to change something")
    static void oneCharacterOfTheTokenIsWrong() {
        for (int at = 0; at < 12; at++) {
            SessionGate gate = Gates.withSession();
            gate.put(1, at, '=');
            dueRefused(gate, SessionGate.WRONG);
        }
    }

    @Sentence(promise = 9, says = "the SESSION, or why it is refused")
    static void refusedForItsForm() {
        dueRefused(new SessionGate(), SessionGate.FORM);
        dueRefused(bearing(Reference.cookie(0, ZERO, Gates.USER, ID) + "A"), SessionGate.FORM);
    }

    @Sentence(promise = 9, says = "the SESSION, or why it is refused")
    static void refusedForItsKey() {
        dueRefused(bearing(Reference.cookie(1, ZERO, Gates.USER, ID)), SessionGate.KEY);
    }

    @Sentence(promise = 9, says = "the SESSION, or why it is refused")
    static void refusedForItsSeal() {
        dueRefused(bearing(Reference.cookie(0, KEY_ONE, Gates.USER, ID)), SessionGate.SEAL);
    }

    @Sentence(promise = 9, says = "the SESSION, or why it is refused")
    static void refusedWhenGone() {
        dueRefused(bearing(Reference.cookie(0, ZERO, Gates.USER, ID + 1)), SessionGate.GONE);
    }

    @Sentence(promise = 9, says = "OLD, IDLE: that SESSION is, and ends now.")
    static void refusedWhenOld() {
        SessionGate gate = Gates.withSession(1, 100, 1000);
        gate.pass(100);
        Check.due("logout", gate.logout(), SessionGate.OLD);
        Check.due("it ended", gate.count(0), 0);
        Check.due("requests let in", gate.count(2), 0);
        Check.due("requests refused", gate.count(3), 1);
    }

    @Sentence(promise = 9, says = "OLD, IDLE: that SESSION is, and ends now.")
    static void refusedWhenIdle() {
        SessionGate gate = Gates.withSession(1, 1000, 100);
        gate.pass(100);
        Check.due("logout", gate.logout(), SessionGate.IDLE);
        Check.due("it ended", gate.count(0), 0);
        Check.due("requests let in", gate.count(2), 0);
        Check.due("requests refused", gate.count(3), 1);
    }

    @Sentence(promise = 9, says = "OLD, IDLE: that SESSION is, and ends now.")
    static void letInJustBefore() {
        SessionGate gate = Gates.withSession(1, 100, 100);
        gate.pass(99);
        Check.due("logout", gate.logout(), 0);
        Check.due("requests let in", gate.count(2), 1);
    }
}
