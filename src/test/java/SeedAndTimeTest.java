/** Promises 2 to 4: seed, pass and limits. */
public final class SeedAndTimeTest {
    private static final long LONGEST_PASS = 10_000_000_000L;
    private static final long LARGEST = 1_000_000_000_000L;

    public static void main(String[] args) throws IllegalAccessException {
        Sentences.run(SeedAndTimeTest.class);
    }

    private static long idBehindSeed(long seed) {
        SessionGate gate = Gates.ofUser3();
        gate.seed(seed);
        Gates.login(gate);
        return gate.session(0, 1);
    }

    @Sentence(promise = 2, says = "under the SEED (8 bytes)")
    static void everySeed() {
        long[] seeds = {0, 1, -1, Long.MIN_VALUE, Long.MAX_VALUE, 0x0102030405060708L, 1L << 32, 255, 256};
        for (long seed : seeds) {
            Check.due("the first id of seed " + seed, idBehindSeed(seed), Reference.id(seed, 0));
        }
        for (int bit = 0; bit < 64; bit++) {
            Check.due("the first id of seed 1 << " + bit, idBehindSeed(1L << bit), Reference.id(1L << bit, 0));
        }
    }

    @Sentence(promise = 2, says = "how many SESSIONS there were is 0 from now on")
    static void seedBeginsAnew() {
        SessionGate gate = Gates.ofUser3();
        Gates.login(gate);
        Gates.login(gate);
        gate.seed(99);
        Check.due("how many there were", gate.count(1), 0);
        Check.due("login", Gates.login(gate), 2);
        Check.due("its id", gate.session(2, 1), Reference.id(99, 0));
        Check.due("how many there were then", gate.count(1), 1);
        Gates.login(gate);
        Check.due("the next id", gate.session(3, 1), Reference.id(99, 1));
    }

    @Sentence(promise = 2, says = "how many SESSIONS there were is 0 from now on")
    static void sameSeedAgain() {
        SessionGate gate = Gates.withSession();
        gate.seed(0);
        Check.due("login", Gates.login(gate), 1);
        Check.due("the id of the first one", gate.session(1, 1), gate.session(0, 1));
    }

    // The document does not say which of two sessions with the same id and user is meant.
    @Sentence(promise = 8, says = "no SESSION has that ID and USER")
    static void ofTwinsTheLeastNumber() {
        SessionGate gate = Gates.withSession();
        gate.seed(0);
        Gates.login(gate);
        Check.due("of two that fit", gate.request(true), 0);
        Check.due("that one ends", gate.logout(), 0);
        Check.due("then the other", gate.request(true), 1);
    }

    @Sentence(promise = 2, says = "The SEED")
    static void seedLeavesTheRest() {
        SessionGate gate = Gates.busy();
        String texts = GateView.texts(gate);
        String sessions = GateView.sessions(gate);
        gate.seed(1);
        Check.due("the texts", GateView.texts(gate), texts);
        Check.due("the sessions", GateView.sessions(gate), sessions);
        Check.due("the counts", GateView.counts(gate), "2 0 1 1 1 2 1 ");
        Check.due("a request", gate.request(true), 1);
    }

    @Sentence(promise = 2, says = "how many SESSIONS there were before (8 bytes)")
    static void moreSessionsThanAByteHolds() {
        SessionGate gate = Gates.ofUser3();
        for (int before = 0; before < 260; before++) {
            if (before % 8 == 0) {
                gate.revoke(Gates.USER);
            }
            Gates.login(gate);
            if (before < 2 || before > 253) {
                Check.due("the id behind " + before, gate.session(before % 8, 1), Reference.id(0, before));
            }
        }
        Check.due("how many there were", gate.count(1), 260);
    }

    @Sentence(promise = 2, says = "how many SESSIONS there were before (8 bytes)")
    static void endedSessionsCountOn() {
        SessionGate gate = Gates.withSession();
        gate.logout();
        Gates.login(gate);
        Check.due("the id in the same place", gate.session(0, 1), Reference.id(0, 1));
        gate.revoke(Gates.USER);
        Gates.login(gate);
        Check.due("and once more", gate.session(0, 1), Reference.id(0, 2));
    }

    @Sentence(promise = 2, says = "how many SESSIONS there were before (8 bytes)")
    static void loginsWithoutASessionDoNotCount() {
        SessionGate gate = Gates.full();
        gate.login(Gates.USER, 0, 0);
        Gates.login(gate);
        Check.due("behind BAD and FULL", gate.count(1), 8);
        gate.logout();
        Gates.login(gate);
        Check.due("the next id", gate.session(7, 1), Reference.id(0, 8));
    }

    @Sentence(promise = 3, says = "NOW is so much later, 1 .. 10,000,000,000: NOW.")
    static void passTheLeast() {
        SessionGate gate = new SessionGate();
        Check.due("pass(1)", gate.pass(1), 1);
        Check.due("pass(1) again", gate.pass(1), 2);
        Check.due("pass(2)", gate.pass(2), 4);
    }

    @Sentence(promise = 3, says = "NOW is so much later, 1 .. 10,000,000,000: NOW.")
    static void passTheLongest() {
        SessionGate gate = new SessionGate();
        Check.due("the longest", gate.pass(LONGEST_PASS), LONGEST_PASS);
        Check.due("the longest but one", gate.pass(LONGEST_PASS - 1), 2 * LONGEST_PASS - 1);
    }

    @Sentence(promise = 3, says = "NOW is so much later, 1 .. 10,000,000,000: NOW.")
    static void passOnAndOn() {
        SessionGate gate = Gates.ofUser3();
        for (int i = 1; i <= 508; i++) {
            Check.due("pass " + i, gate.pass(LONGEST_PASS), i * LONGEST_PASS);
        }
        Gates.login(gate);
        Check.due("a session's beginning", gate.session(0, 2), 508 * LONGEST_PASS);
    }

    @Sentence(promise = 3, says = "IllegalArgument.")
    static void passTooShort() {
        Check.refuses("pass(0)", Check.IAE, gate -> gate.pass(0));
        Check.refuses("pass(-1)", Check.IAE, gate -> gate.pass(-1));
    }

    @Sentence(promise = 3, says = "IllegalArgument.")
    static void passTooLong() {
        Check.refuses("one too long", Check.IAE, gate -> gate.pass(LONGEST_PASS + 1));
    }

    @Sentence(promise = 3, says = "IllegalArgument is thrown where a number is none of those told here.")
    static void passFarOff() {
        for (long time : Wrong.TIMES) {
            Check.refuses("pass(" + time + ")", Check.IAE, gate -> gate.pass(time));
        }
    }

    @Sentence(promise = 4, says = "GRACE, MOST, REST, each 1 .. 1,000,000,000,000.")
    static void leastGrace() {
        SessionGate gate = Gates.withSession(1, LARGEST, LARGEST);
        gate.change(1, 2, 3, 4);
        Check.due("live keys at once", gate.count(5), 2);
        gate.pass(1);
        Check.due("live keys at 1", gate.count(5), 1);
        Check.due("request", gate.request(false), SessionGate.KEY);
    }

    @Sentence(promise = 4, says = "GRACE, MOST, REST, each 1 .. 1,000,000,000,000.")
    static void leastMost() {
        SessionGate gate = Gates.withSession(LARGEST, 1, LARGEST);
        Check.due("request at once", gate.request(false), 0);
        gate.pass(1);
        Check.due("request at 1", gate.request(false), SessionGate.OLD);
    }

    @Sentence(promise = 4, says = "GRACE, MOST, REST, each 1 .. 1,000,000,000,000.")
    static void leastRest() {
        SessionGate gate = Gates.withSession(LARGEST, LARGEST, 1);
        Check.due("request at once", gate.request(false), 0);
        gate.pass(1);
        Check.due("request at 1", gate.request(false), SessionGate.IDLE);
    }

    /** To one before the largest limit. */
    private static void passAlmostTheLargest(SessionGate gate) {
        for (int i = 0; i < 99; i++) {
            gate.pass(LONGEST_PASS);
        }
        gate.pass(LONGEST_PASS - 1);
    }

    @Sentence(promise = 4, says = "GRACE, MOST, REST, each 1 .. 1,000,000,000,000.")
    static void largestGrace() {
        SessionGate gate = Gates.withSession(LARGEST, 1, 1);
        gate.change(1, 2, 3, 4);
        passAlmostTheLargest(gate);
        Check.due("live keys one before", gate.count(5), 2);
        gate.pass(1);
        Check.due("live keys then", gate.count(5), 1);
    }

    @Sentence(promise = 4, says = "GRACE, MOST, REST, each 1 .. 1,000,000,000,000.")
    static void largestMost() {
        SessionGate gate = Gates.withSession(1, LARGEST, LARGEST);
        passAlmostTheLargest(gate);
        Check.due("request one before", gate.request(false), 0);
        gate.pass(1);
        Check.due("request then", gate.request(false), SessionGate.OLD);
    }

    @Sentence(promise = 4, says = "GRACE, MOST, REST, each 1 .. 1,000,000,000,000.")
    static void largestRest() {
        SessionGate gate = Gates.withSession(1, LARGEST, LARGEST);
        passAlmostTheLargest(gate);
        Check.due("request one before", gate.request(false), 0);
        SessionGate shorter = Gates.withSession(1, LARGEST, LARGEST - 1);
        passAlmostTheLargest(shorter);
        Check.due("request with a rest shorter by one", shorter.request(false), SessionGate.IDLE);
    }

    @Sentence(promise = 4, says = "IllegalArgument.")
    static void graceOutside() {
        for (long wrong : Wrong.LIMITS) {
            Check.refusesOrder("grace " + wrong, Check.IAE, gate -> gate.limits(wrong, 3, 2));
        }
    }

    @Sentence(promise = 4, says = "IllegalArgument.")
    static void mostOutside() {
        for (long wrong : Wrong.LIMITS) {
            Check.refusesOrder("most " + wrong, Check.IAE, gate -> gate.limits(3, wrong, 2));
        }
    }

    @Sentence(promise = 4, says = "IllegalArgument.")
    static void restOutside() {
        for (long wrong : Wrong.LIMITS) {
            Check.refusesOrder("rest " + wrong, Check.IAE, gate -> gate.limits(3, 2, wrong));
        }
    }

    @Sentence(promise = 4, says = "IllegalArgument.")
    static void allOutside() {
        Check.refusesOrder("limits(0, 0, 0)", Check.IAE, gate -> gate.limits(0, 0, 0));
        Check.refusesOrder("all too large", Check.IAE, gate -> gate.limits(LARGEST + 1, LARGEST + 1, LARGEST + 1));
    }

    @Sentence(promise = 4, says = "GRACE, MOST, REST")
    static void eachLimitInItsPlace() {
        SessionGate gate = Gates.withSession(10, 30, 20);
        gate.change(1, 2, 3, 4);
        gate.pass(9);
        Check.due("live keys at 9", gate.count(5), 2);
        Check.due("request at 9", gate.request(false), 0);
        gate.pass(1);
        Check.due("live keys at 10", gate.count(5), 1);
        gate.pass(18);
        Check.due("request 19 behind its last", gate.request(false), 0);
        gate.pass(2);
        Check.due("request 30 behind its beginning", gate.request(false), SessionGate.OLD);
        Gates.login(gate);
        gate.pass(20);
        Check.due("request 20 behind its last", gate.request(false), SessionGate.IDLE);
    }

    @Sentence(promise = 4, says = "GRACE, MOST, REST")
    static void limitsMeetWhatIsThere() {
        SessionGate gate = Gates.withSession();
        gate.change(1, 2, 3, 4);
        gate.pass(50);
        gate.limits(50, 51, 51);
        Check.due("the key's grace is over", gate.count(5), 1);
        gate.limits(51, 51, 51);
        Check.due("it is so no more", gate.count(5), 2);
        Check.due("the session is not old yet", gate.request(false), 0);
        gate.limits(51, 50, 51);
        Check.due("now it is", gate.request(false), SessionGate.OLD);
    }

    @Sentence(promise = 4, says = "GRACE, MOST, REST")
    static void limitsLeaveTheRest() {
        SessionGate gate = Gates.busy();
        String before = GateView.seen(gate);
        gate.limits(11, 1, 1);
        Check.due("all that is seen", GateView.seen(gate), before);
    }
}
