/** Promise 5: change, and which keys there are and live. */
public final class KeysTest {
    private static final long ID = Reference.id(0, 0);

    public static void main(String[] args) throws IllegalAccessException {
        Sentences.run(KeysTest.class);
    }

    private static void changeTimes(SessionGate gate, int times) {
        for (int i = 0; i < times; i++) {
            gate.change(i, i, i, i);
        }
    }

    @Sentence(promise = 5, says = "its number one more")
    static void numbersGoUp() {
        SessionGate gate = new SessionGate();
        for (int number = 1; number <= 255; number++) {
            Check.due("change " + number, gate.change(0, 0, 0, 0), number);
        }
        Check.due("the newest one's number", gate.count(6), 255);
    }

    @Sentence(promise = 5, says = "(0 behind 255)")
    static void noughtBehind255() {
        SessionGate gate = Gates.ofUser3();
        changeTimes(gate, 255);
        Check.due("behind 255", gate.change(9, 9, 9, 9), 0);
        Check.due("the newest one's number", gate.count(6), 0);
        Gates.login(gate);
        Check.due("key 0 seals", GateView.texts(gate),
                Reference.texts(0, Reference.key(9, 9, 9, 9), Gates.USER, ID));
        Check.due("behind 0", gate.change(1, 1, 1, 1), 1);
        Check.due("renewed under key 1", gate.request(true), 0);
        Check.due("key 1 seals", GateView.texts(gate),
                Reference.texts(1, Reference.key(1, 1, 1, 1), Gates.USER, ID));
    }

    @Sentence(promise = 5, says = "(0 behind 255)")
    static void cookieUnderKey255IsRenewedUnderKey0() {
        SessionGate gate = Gates.ofUser3();
        changeTimes(gate, 255);
        Gates.login(gate);
        gate.change(7, 7, 7, 7);
        Check.due("request", gate.request(true), 0);
        Check.due("renewed", gate.count(4), 1);
        Check.due("the texts", GateView.texts(gate),
                Reference.texts(0, Reference.key(7, 7, 7, 7), Gates.USER, ID));
    }

    @Sentence(promise = 5, says = "of more than four KEYS the oldest is gone")
    static void fourKeysStayOverTheTurn() {
        SessionGate gate = Gates.ofUser3();
        changeTimes(gate, 254);
        Gates.login(gate);
        String cookie = GateView.text(gate, 0);
        changeTimes(gate, 3);
        Check.due("keys 254, 255, 0 and 1", gate.count(5), 4);
        Check.due("a cookie under 254", gate.request(false), 0);
        gate.change(5, 5, 5, 5);
        GateView.write(gate, 0, cookie);
        Check.due("and with key 2", gate.request(false), SessionGate.KEY);
    }

    @Sentence(promise = 5, says = "of more than four KEYS the oldest is gone")
    static void firstKey0IsGoneWhenItsNumberComesAgain() {
        SessionGate gate = Gates.withSession();
        changeTimes(gate, 256);
        Check.due("another key 0", gate.count(6), 0);
        Check.due("a cookie under the first one", gate.request(false), SessionGate.SEAL);
    }

    @Sentence(promise = 5, says = "of more than four KEYS the oldest is gone")
    static void theFourthIsThere() {
        SessionGate gate = Gates.withSession();
        for (int keys = 2; keys <= 4; keys++) {
            gate.change(keys, 0, 0, 0);
            Check.due("live keys", gate.count(5), keys);
        }
        Check.due("request under the fourth newest", gate.request(true), 0);
    }

    @Sentence(promise = 5, says = "of more than four KEYS the oldest is gone")
    static void theFifthIsGone() {
        SessionGate gate = Gates.withSession();
        changeTimes(gate, 4);
        Check.due("live keys", gate.count(5), 4);
        Check.due("request under the fifth newest", gate.request(true), SessionGate.KEY);
        changeTimes(gate, 1);
        Check.due("live keys of six", gate.count(5), 4);
    }

    @Sentence(promise = 5, says = "of more than four KEYS the oldest is gone")
    static void theOldestAloneIsGone() {
        for (int under = 1; under <= 4; under++) {
            SessionGate gate = Gates.ofUser3();
            changeTimes(gate, under);
            Gates.login(gate);
            changeTimes(gate, 4 - under);
            Check.due("request under key " + under + " of 0 .. 4", gate.request(true), 0);
            Check.due("renewed", gate.count(4), under == 4 ? 0 : 1);
        }
    }

    @Sentence(promise = 5, says = "the new one's bytes, four in each number")
    static void bytesOfTheKey() {
        int[][] keys = {{0x01020304, 0x05060708, 0x090a0b0c, 0x0d0e0f10}, {-1, -1, -1, -1}, {0, 0, 0, 0},
            {Integer.MIN_VALUE, Integer.MAX_VALUE, 128, 0xff00ff00}, {1, 0, 0, 0}, {0, 0, 0, 1 << 24}};
        for (int[] key : keys) {
            SessionGate gate = Gates.ofUser3();
            gate.change(key[0], key[1], key[2], key[3]);
            Gates.login(gate);
            Check.due("the texts", GateView.texts(gate),
                    Reference.texts(1, Reference.key(key[0], key[1], key[2], key[3]), Gates.USER, ID));
        }
    }

    @Sentence(promise = 5, says = "the new one's bytes, four in each number")
    static void nothingOfAnOlderKeyStays() {
        SessionGate gate = Gates.ofUser3();
        for (int i = 0; i < 4; i++) {
            gate.change(-1, -1, -1, -1);
        }
        gate.change(0, 0, 0, 0);
        Gates.login(gate);
        Check.due("the texts", GateView.texts(gate), Reference.texts(5, Reference.ZERO_KEY, Gates.USER, ID));
    }

    @Sentence(promise = 5, says = "the new one's bytes, four in each number; its number.")
    static void answersTheNewOnesNumber() {
        SessionGate gate = Gates.busy();
        for (int change = 0; change < 6; change++) {
            Check.due("change", gate.change(-change, change, 0, 77), gate.count(6));
        }
        Check.due("the last one's number", gate.count(6), 7);
    }

    @Sentence(promise = 5, says = "a new KEY is the NEWEST")
    static void sameBytesAreANewKey() {
        SessionGate gate = Gates.withSession();
        Check.due("change", gate.change(0, 0, 0, 0), 1);
        Check.due("request", gate.request(true), 0);
        Check.due("renewed", gate.count(4), 1);
        Check.due("the texts", GateView.texts(gate), Reference.texts(1, Reference.ZERO_KEY, Gates.USER, ID));
    }

    @Sentence(promise = 5, says = "A KEY is LIVE if it is the NEWEST, or was so less than GRACE ago.")
    static void liveOneBeforeGrace() {
        SessionGate gate = Gates.withSession(10, 1000, 1000);
        gate.change(1, 2, 3, 4);
        gate.pass(9);
        Check.due("live keys", gate.count(5), 2);
        Check.due("request", gate.request(true), 0);
    }

    @Sentence(promise = 5, says = "A KEY is LIVE if it is the NEWEST, or was so less than GRACE ago.")
    static void notLiveAtGrace() {
        SessionGate gate = Gates.withSession(10, 1000, 1000);
        gate.change(1, 2, 3, 4);
        gate.pass(10);
        Check.due("live keys", gate.count(5), 1);
        Check.due("request", gate.request(true), SessionGate.KEY);
    }

    @Sentence(promise = 5, says = "A KEY is LIVE if it is the NEWEST, or was so less than GRACE ago.")
    static void theNewestLivesOn() {
        SessionGate gate = Gates.ofUser3();
        gate.limits(1, 1000, 1000);
        gate.change(1, 2, 3, 4);
        gate.pass(10_000_000_000L);
        Check.due("live keys", gate.count(5), 1);
        Gates.login(gate);
        gate.pass(999);
        Check.due("request", gate.request(true), 0);
    }

    @Sentence(promise = 5, says = "A KEY is LIVE if it is the NEWEST, or was so less than GRACE ago.")
    static void graceBeginsWhenAKeyIsNewestNoMore() {
        SessionGate gate = Gates.withSession(10, 1000, 1000);
        gate.pass(500);
        gate.change(1, 2, 3, 4);
        gate.pass(9);
        Check.due("live keys", gate.count(5), 2);
        gate.change(5, 6, 7, 8);
        Check.due("live keys of three", gate.count(5), 3);
        gate.pass(1);
        Check.due("key 0 is not live", gate.count(5), 2);
        Check.due("request under key 0", gate.request(true), SessionGate.KEY);
        gate.pass(8);
        Check.due("key 1 is live", gate.count(5), 2);
        gate.pass(1);
        Check.due("key 1 is not live", gate.count(5), 1);
    }

    @Sentence(promise = 5, says = "A KEY is LIVE if it is the NEWEST, or was so less than GRACE ago.")
    static void manyKeysAtOneTime() {
        SessionGate gate = Gates.withSession(1, 1000, 1000);
        changeTimes(gate, 3);
        Check.due("live keys at once", gate.count(5), 4);
        Check.due("request at once", gate.request(true), 0);
        gate.pass(1);
        Check.due("live keys then", gate.count(5), 1);
    }

    @Sentence(promise = 5, says = "CHANGING KEYS")
    static void changeLeavesTheRest() {
        SessionGate gate = Gates.busy();
        String texts = GateView.texts(gate);
        String sessions = GateView.sessions(gate);
        gate.change(8, 8, 8, 8);
        Check.due("the texts", GateView.texts(gate), texts);
        Check.due("the sessions", GateView.sessions(gate), sessions);
        Check.due("the counts", GateView.counts(gate), "2 2 1 1 1 3 2 ");
    }
}
