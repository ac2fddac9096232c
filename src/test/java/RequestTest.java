/** Promise 8: request, and why one is refused. */
public final class RequestTest {
    private static final byte[] ZERO = Reference.ZERO_KEY;
    private static final byte[] KEY_ONE = Reference.key(1, 2, 3, 4);
    private static final long ID = Reference.id(0, 0);
    private static final String COOKIE = Reference.cookie(0, ZERO, Gates.USER, ID);
    private static final String TOKEN = Reference.token(0, ZERO, Gates.USER, ID);

    public static void main(String[] args) throws IllegalAccessException {
        Sentences.run(RequestTest.class);
    }

    /** What a gate with session 0 of user 3 answers to this cookie with the right token. */
    private static void dueWithCookie(String cookie, int want) {
        SessionGate gate = Gates.withSession();
        gate.pass(1);
        GateView.write(gate, 0, cookie);
        Check.due("request with cookie " + cookie, gate.request(true), want);
        Check.due("last behind cookie " + cookie, gate.session(0, 3), want >= 0 ? 1 : 0);
    }

    /** The same with this token and the right cookie. */
    private static void dueWithToken(String token, int want) {
        SessionGate gate = Gates.withSession();
        gate.pass(1);
        GateView.write(gate, 1, token);
        Check.due("request with token " + token, gate.request(true), want);
        Check.due("last behind token " + token, gate.session(0, 3), want >= 0 ? 1 : 0);
    }

    private static String with(String text, int at, char sign) {
        return text.substring(0, at) + sign + text.substring(at + 1);
    }

    @Sentence(promise = 8, says = "FORM: TEXT 0 is not 30 such characters")
    static void formEmpty() {
        dueWithCookie("", SessionGate.FORM);
    }

    @Sentence(promise = 8, says = "FORM: TEXT 0 is not 30 such characters")
    static void formTooShort() {
        dueWithCookie(COOKIE.substring(0, 29), SessionGate.FORM);
        dueWithCookie(COOKIE.substring(1), SessionGate.FORM);
        dueWithCookie("A", SessionGate.FORM);
    }

    @Sentence(promise = 8, says = "FORM: TEXT 0 is not 30 such characters")
    static void formTooLong() {
        dueWithCookie(COOKIE + "A", SessionGate.FORM);
        dueWithCookie("A" + COOKIE, SessionGate.FORM);
        dueWithCookie(COOKIE + "AAAAAAAAAA", SessionGate.FORM);
        dueWithCookie(COOKIE + "=", SessionGate.FORM);
    }

    @Sentence(promise = 8, says = "FORM: TEXT 0 is not 30 such characters")
    static void form30() {
        dueWithCookie(COOKIE, 0);
    }

    @Sentence(promise = 8, says = "FORM: TEXT 0 is not 30 such characters")
    static void formNoSuchCharacter() {
        for (int at = 0; at < 30; at++) {
            for (char sign = 1; sign < 256; sign++) {
                if (!isCoding(sign)) {
                    dueWithCookie(with(COOKIE, at, sign), SessionGate.FORM);
                }
            }
        }
    }

    private static boolean isCoding(char sign) {
        return sign < 128 && (Character.isLetterOrDigit(sign) || sign == '-' || sign == '_');
    }

    @Sentence(promise = 8, says = "FORM: TEXT 0 is not 30 such characters")
    static void formEverySuchCharacter() {
        for (char sign = 1; sign < 256; sign++) {
            if (isCoding(sign)) {
                String other = with(COOKIE, 14, sign);
                dueWithCookie(other, other.equals(COOKIE) ? 0 : SessionGate.SEAL);
            }
        }
    }

    @Sentence(promise = 8, says = "that are CODED from 22 bytes")
    static void formLastBitsAre0() {
        for (char sign = 1; sign < 256; sign++) {
            if (isCoding(sign)) {
                boolean filledWith0 = "AQgw".indexOf(sign) >= 0;
                String other = with(COOKIE, 29, sign);
                dueWithCookie(other, other.equals(COOKIE) ? 0 : filledWith0 ? SessionGate.SEAL : SessionGate.FORM);
            }
        }
    }

    @Sentence(promise = 8, says = "KEY: no LIVE KEY has its number.")
    static void keyNeverThere() {
        for (int number = 1; number < 256; number++) {
            dueWithCookie(Reference.cookie(number, ZERO, Gates.USER, ID), SessionGate.KEY);
        }
    }

    @Sentence(promise = 8, says = "KEY: no LIVE KEY has its number.")
    static void keyJustBehindTheNewest() {
        SessionGate gate = Gates.withSession();
        gate.change(1, 2, 3, 4);
        GateView.write(gate, 0, Reference.cookie(2, KEY_ONE, Gates.USER, ID));
        Check.due("one behind the newest", gate.request(false), SessionGate.KEY);
        GateView.write(gate, 0, Reference.cookie(255, ZERO, Gates.USER, ID));
        Check.due("one before the first", gate.request(false), SessionGate.KEY);
    }

    @Sentence(promise = 8, says = "KEY: no LIVE KEY has its number.")
    static void keyAtGrace() {
        SessionGate gate = Gates.withSession(10, 1000, 1000);
        gate.change(1, 2, 3, 4);
        gate.pass(10);
        Check.due("at GRACE", gate.request(false), SessionGate.KEY);
        Check.due("the session stays", gate.count(0), 1);
        Check.due("nothing is renewed", GateView.texts(gate), COOKIE + " " + TOKEN);
    }

    @Sentence(promise = 8, says = "SEAL: the MAC is another one.")
    static void sealEveryBit() {
        byte[] bytes = Reference.cookieBytes(COOKIE);
        for (int bit = 8; bit < 176; bit++) {
            byte[] other = bytes.clone();
            other[bit / 8] ^= (byte) (128 >>> (bit % 8));
            dueWithCookie(Reference.coded(other), SessionGate.SEAL);
        }
    }

    @Sentence(promise = 8, says = "SEAL: the MAC is another one.")
    static void sealOfAnotherKey() {
        dueWithCookie(Reference.cookie(0, KEY_ONE, Gates.USER, ID), SessionGate.SEAL);
        SessionGate gate = Gates.withSession();
        gate.change(1, 2, 3, 4);
        GateView.write(gate, 0, Reference.cookie(1, ZERO, Gates.USER, ID));
        Check.due("key 1 by its number, key 0 by its seal", gate.request(false), SessionGate.SEAL);
        GateView.write(gate, 0, Reference.cookie(0, KEY_ONE, Gates.USER, ID));
        Check.due("key 0 by its number, key 1 by its seal", gate.request(false), SessionGate.SEAL);
        GateView.write(gate, 0, Reference.cookie(1, KEY_ONE, Gates.USER, ID));
        Check.due("key 1", gate.request(false), 0);
    }

    @Sentence(promise = 8, says = "GONE: no SESSION has that ID and USER.")
    static void goneAnotherId() {
        for (int bit = 0; bit < 64; bit++) {
            dueWithCookie(Reference.cookie(0, ZERO, Gates.USER, ID ^ (1L << bit)), SessionGate.GONE);
        }
    }

    @Sentence(promise = 8, says = "GONE: no SESSION has that ID and USER.")
    static void goneAnotherUser() {
        for (int user = 0; user < 256; user++) {
            dueWithCookie(Reference.cookie(0, ZERO, user, ID), user == Gates.USER ? 0 : SessionGate.GONE);
        }
    }

    // The id of one session with the user of another.
    @Sentence(promise = 8, says = "GONE: no SESSION has that ID and USER.")
    static void goneIdAndUserOfTwoSessions() {
        SessionGate gate = Gates.withSession();
        gate.user(4, 0, 0);
        gate.login(4, 0, 0);
        GateView.write(gate, 0, Reference.cookie(0, ZERO, 4, ID));
        Check.due("request", gate.request(false), SessionGate.GONE);
    }

    // A place without a session holds user 0 and id 0 in many a program.
    @Sentence(promise = 8, says = "GONE: no SESSION has that ID and USER.")
    static void goneOnANewGate() {
        SessionGate gate = new SessionGate();
        GateView.write(gate, 0, Reference.cookie(0, ZERO, 0, 0));
        Check.due("user 0, id 0", gate.request(false), SessionGate.GONE);
        GateView.write(gate, 0, Reference.cookie(0, ZERO, 255, -1));
        Check.due("user 255, id -1", gate.request(false), SessionGate.GONE);
    }

    @Sentence(promise = 8, says = "GONE: no SESSION has that ID and USER.")
    static void goneWhenLeft() {
        SessionGate gate = Gates.withSession();
        gate.logout();
        Check.due("behind logout", gate.request(false), SessionGate.GONE);
    }

    @Sentence(promise = 8, says = "GONE: no SESSION has that ID and USER.")
    static void goneWhenTakenAway() {
        SessionGate gate = Gates.withSession();
        gate.revoke(Gates.USER);
        Check.due("behind revoke", gate.request(false), SessionGate.GONE);
    }

    @Sentence(promise = 8, says = "GONE: no SESSION has that ID and USER.")
    static void goneWhenItsNumberIsAnothers() {
        SessionGate gate = Gates.withSession();
        gate.pass(1_000_000);
        Check.due("login ends it", Gates.login(gate), 0);
        GateView.write(gate, 0, COOKIE);
        Check.due("the cookie of the ended one", gate.request(false), SessionGate.GONE);
        Check.due("the other one stays", gate.count(0), 1);
    }

    @Sentence(promise = 8, says = "It is OLD if NOW is MOST or more behind its BEGINNING")
    static void notOldOneBefore() {
        SessionGate gate = Gates.withSession(1, 100, 1000);
        gate.pass(99);
        Check.due("one before MOST", gate.request(true), 0);
    }

    @Sentence(promise = 8, says = "It is OLD if NOW is MOST or more behind its BEGINNING")
    static void oldAtMost() {
        SessionGate gate = Gates.withSession(1, 100, 1000);
        gate.pass(100);
        Check.due("at MOST", gate.request(true), SessionGate.OLD);
    }

    @Sentence(promise = 8, says = "It is OLD if NOW is MOST or more behind its BEGINNING")
    static void oldThoughUsed() {
        SessionGate gate = Gates.withSession(1, 100, 1000);
        for (int i = 0; i < 9; i++) {
            gate.pass(11);
            Check.due("used", gate.request(true), 0);
        }
        gate.pass(1);
        Check.due("at MOST", gate.request(true), SessionGate.OLD);
    }

    @Sentence(promise = 8, says = "It is OLD if NOW is MOST or more behind its BEGINNING")
    static void oldFarBehind() {
        SessionGate gate = Gates.withSession(1, 100, 1_000_000_000_000L);
        gate.pass(10_000_000_000L);
        Check.due("far behind", gate.request(false), SessionGate.OLD);
    }

    @Sentence(promise = 8, says = "IDLE if NOW is REST or more behind its LAST")
    static void notIdleOneBefore() {
        SessionGate gate = Gates.withSession(1, 1000, 100);
        gate.pass(99);
        Check.due("one before REST", gate.request(true), 0);
    }

    @Sentence(promise = 8, says = "IDLE if NOW is REST or more behind its LAST")
    static void idleAtRest() {
        SessionGate gate = Gates.withSession(1, 1000, 100);
        gate.pass(100);
        Check.due("at REST", gate.request(true), SessionGate.IDLE);
    }

    @Sentence(promise = 8, says = "IDLE if NOW is REST or more behind its LAST")
    static void idleFromItsLast() {
        SessionGate gate = Gates.withSession(1, 1000, 100);
        gate.pass(99);
        gate.request(false);
        gate.pass(99);
        Check.due("99 behind its last", gate.request(false), 0);
        gate.pass(100);
        Check.due("100 behind its last", gate.request(false), SessionGate.IDLE);
    }

    @Sentence(promise = 8, says = "IDLE if NOW is REST or more behind its LAST")
    static void refusedRequestsAreNoUse() {
        SessionGate gate = Gates.withSession(1, 1000, 100);
        gate.pass(50);
        gate.put(1, 0, '=');
        Check.due("WRONG", gate.request(true), SessionGate.WRONG);
        Check.due("last", gate.session(0, 3), 0);
        gate.pass(50);
        Check.due("100 behind its last", gate.request(false), SessionGate.IDLE);
    }

    @Sentence(promise = 8, says = "OLD, IDLE: that SESSION is, and ends now.")
    static void oldEnds() {
        SessionGate gate = Gates.withSession(1, 100, 1000);
        gate.pass(100);
        Check.due("before", gate.count(0), 1);
        Check.due("request", gate.request(false), SessionGate.OLD);
        Check.due("behind", gate.count(0), 0);
        Check.due("its user", gate.session(0, 0), SessionGate.NONE);
        Check.due("request again", gate.request(false), SessionGate.GONE);
    }

    @Sentence(promise = 8, says = "OLD, IDLE: that SESSION is, and ends now.")
    static void idleEnds() {
        SessionGate gate = Gates.withSession(1, 1000, 100);
        gate.pass(100);
        Check.due("before", gate.count(0), 1);
        Check.due("request", gate.request(false), SessionGate.IDLE);
        Check.due("behind", gate.count(0), 0);
        Check.due("its user", gate.session(0, 0), SessionGate.NONE);
        Check.due("request again", gate.request(false), SessionGate.GONE);
    }

    @Sentence(promise = 8, says = "OLD, IDLE: that SESSION is, and ends now.")
    static void onlyThatSessionEnds() {
        SessionGate gate = Gates.full();
        gate.pass(1_000_000);
        Check.due("request", gate.request(false), SessionGate.OLD);
        Check.due("sessions", gate.count(0), 7);
        Check.due("it is session 7", gate.session(7, 0), SessionGate.NONE);
        SessionGate resting = Gates.full();
        resting.limits(1, 1000, 100);
        resting.pass(100);
        Check.due("request", resting.request(false), SessionGate.IDLE);
        Check.due("sessions", resting.count(0), 7);
    }

    @Sentence(promise = 8, says = "WRONG: it is to change something, and TEXT 1 is not the TOKEN")
    static void wrongEmpty() {
        dueWithToken("", SessionGate.WRONG);
    }

    @Sentence(promise = 8, says = "WRONG: it is to change something, and TEXT 1 is not the TOKEN")
    static void wrongTooShort() {
        dueWithToken(TOKEN.substring(0, 11), SessionGate.WRONG);
        dueWithToken(TOKEN.substring(1), SessionGate.WRONG);
    }

    @Sentence(promise = 8, says = "WRONG: it is to change something, and TEXT 1 is not the TOKEN")
    static void wrongTooLong() {
        dueWithToken(TOKEN + "A", SessionGate.WRONG);
        dueWithToken(TOKEN + "\u00ff", SessionGate.WRONG);
        dueWithToken(TOKEN + TOKEN + TOKEN + "AAAA", SessionGate.WRONG);
    }

    @Sentence(promise = 8, says = "WRONG: it is to change something, and TEXT 1 is not the TOKEN")
    static void wrongEveryPlace() {
        for (int at = 0; at < 12; at++) {
            for (char sign = 1; sign < 256; sign++) {
                String other = with(TOKEN, at, sign);
                dueWithToken(other, other.equals(TOKEN) ? 0 : SessionGate.WRONG);
            }
        }
    }

    @Sentence(promise = 8, says = "WRONG: it is to change something, and TEXT 1 is not the TOKEN")
    static void wrongOfAnotherSession() {
        SessionGate gate = Gates.withSession();
        Gates.login(gate);
        GateView.write(gate, 0, COOKIE);
        Check.due("the token of session 1", gate.request(true), SessionGate.WRONG);
        GateView.write(gate, 1, TOKEN);
        Check.due("its own token", gate.request(true), 0);
    }

    @Sentence(promise = 8, says = "WRONG: it is to change something, and TEXT 1 is not the TOKEN")
    static void theTokenWhereALongerTextWas() {
        SessionGate gate = Gates.withSession();
        GateView.write(gate, 0, "x".repeat(40));
        GateView.write(gate, 1, "x".repeat(40));
        GateView.write(gate, 0, COOKIE);
        GateView.write(gate, 1, TOKEN);
        Check.due("request", gate.request(true), 0);
    }

    @Sentence(promise = 8, says = "it is to change something")
    static void withoutChangesTheTokenIsFree() {
        for (String token : new String[] {"", TOKEN.substring(1), "\u0001", TOKEN + "A"}) {
            SessionGate gate = Gates.withSession();
            GateView.write(gate, 1, token);
            Check.due("request", gate.request(false), 0);
            Check.due("the token", GateView.text(gate, 1), token);
        }
    }

    @Sentence(promise = 8, says = "under the KEY of the COOKIE")
    static void wrongUnderAnotherKey() {
        SessionGate gate = Gates.withSession();
        gate.change(1, 2, 3, 4);
        GateView.write(gate, 1, Reference.token(1, KEY_ONE, Gates.USER, ID));
        Check.due("the newest key's token", gate.request(true), SessionGate.WRONG);
        Check.due("nothing is renewed", gate.count(4), 0);
        GateView.write(gate, 1, Reference.token(0, KEY_ONE, Gates.USER, ID));
        Check.due("the newest key on the cookie's body", gate.request(true), SessionGate.WRONG);
        GateView.write(gate, 1, TOKEN);
        Check.due("the cookie's key's token", gate.request(true), 0);
    }

    @Sentence(promise = 8, says = "WRONG: it is to change something, and TEXT 1 is not the TOKEN")
    static void wrongEndsNothing() {
        SessionGate gate = Gates.withSession();
        gate.change(1, 2, 3, 4);
        gate.pass(1);
        gate.erase(1);
        String sessions = GateView.sessions(gate);
        Check.due("request", gate.request(true), SessionGate.WRONG);
        Check.due("the sessions", GateView.sessions(gate), sessions);
        Check.due("the texts", GateView.texts(gate), COOKIE + " ");
    }

    @Sentence(promise = 8, says = "the first of these in this order")
    static void formBeforeKey() {
        dueWithCookie(Reference.cookie(9, ZERO, Gates.USER, ID) + "A", SessionGate.FORM);
        dueWithCookie(with(Reference.cookie(9, ZERO, Gates.USER, ID), 29, 'B'), SessionGate.FORM);
    }

    @Sentence(promise = 8, says = "the first of these in this order")
    static void keyBeforeSeal() {
        dueWithCookie(Reference.cookie(9, KEY_ONE, Gates.USER, ID), SessionGate.KEY);
    }

    @Sentence(promise = 8, says = "the first of these in this order")
    static void sealBeforeGone() {
        dueWithCookie(Reference.cookie(0, KEY_ONE, Gates.USER, ID + 1), SessionGate.SEAL);
        dueWithCookie(Reference.cookie(0, KEY_ONE, 200, ID), SessionGate.SEAL);
    }

    @Sentence(promise = 8, says = "the first of these in this order")
    static void goneBeforeWrong() {
        SessionGate gate = Gates.withSession();
        gate.logout();
        gate.erase(1);
        Check.due("request", gate.request(true), SessionGate.GONE);
    }

    @Sentence(promise = 8, says = "the first of these in this order")
    static void keySealAndGoneBeforeOld() {
        SessionGate gate = Gates.withSession();
        gate.pass(1_000_000);
        GateView.write(gate, 0, Reference.cookie(9, ZERO, Gates.USER, ID));
        Check.due("KEY", gate.request(true), SessionGate.KEY);
        GateView.write(gate, 0, Reference.cookie(0, KEY_ONE, Gates.USER, ID));
        Check.due("SEAL", gate.request(true), SessionGate.SEAL);
        GateView.write(gate, 0, Reference.cookie(0, ZERO, 4, ID));
        Check.due("GONE", gate.request(true), SessionGate.GONE);
        Check.due("the old one has not ended", gate.count(0), 1);
    }

    @Sentence(promise = 8, says = "the first of these in this order")
    static void oldBeforeIdle() {
        SessionGate gate = Gates.withSession(1, 100, 100);
        gate.pass(100);
        Check.due("both at once", gate.request(false), SessionGate.OLD);
        SessionGate idleFirst = Gates.withSession(1, 100, 50);
        idleFirst.pass(100);
        Check.due("idle before it was old", idleFirst.request(false), SessionGate.OLD);
    }

    @Sentence(promise = 8, says = "the first of these in this order")
    static void oldBeforeWrong() {
        SessionGate gate = Gates.withSession(1, 100, 1000);
        gate.pass(100);
        gate.erase(1);
        Check.due("request", gate.request(true), SessionGate.OLD);
    }

    @Sentence(promise = 8, says = "the first of these in this order")
    static void idleBeforeWrong() {
        SessionGate gate = Gates.withSession(1, 1000, 100);
        gate.pass(100);
        gate.erase(1);
        Check.due("request", gate.request(true), SessionGate.IDLE);
    }

    @Sentence(promise = 8, says = "LAST is NOW")
    static void lastIsNow() {
        SessionGate gate = Gates.withSession();
        Gates.login(gate);
        gate.pass(20);
        Check.due("request", gate.request(false), 1);
        Check.due("its last", gate.session(1, 3), 20);
        Check.due("its beginning", gate.session(1, 2), 0);
        Check.due("the other one's last", gate.session(0, 3), 0);
        gate.pass(1);
        gate.request(true);
        Check.due("its last again", gate.session(1, 3), 21);
    }

    @Sentence(promise = 8, says = "the SESSION, or why it is refused")
    static void eachOfEightSessions() {
        for (int number = 0; number < 8; number++) {
            SessionGate gate = Gates.full();
            long id = Reference.id(0, number);
            GateView.write(gate, 0, Reference.cookie(0, ZERO, Gates.USER, id));
            GateView.write(gate, 1, Reference.token(0, ZERO, Gates.USER, id));
            Check.due("with changes", gate.request(true), number);
            Check.due("without", gate.request(false), number);
        }
    }

    @Sentence(promise = 8, says = "if the KEY is not the NEWEST, the TEXTS become COOKIE and TOKEN under the NEWEST")
    static void renewedUnderTheNewest() {
        SessionGate gate = Gates.withSession();
        gate.change(9, 9, 9, 9);
        gate.change(1, 2, 3, 4);
        Check.due("request", gate.request(true), 0);
        Check.due("the texts", GateView.texts(gate), Reference.texts(2, KEY_ONE, Gates.USER, ID));
        Check.due("renewed", gate.count(4), 1);
        Check.due("let in by them", gate.request(true), 0);
        Check.due("not renewed again", gate.count(4), 1);
    }

    @Sentence(promise = 8, says = "if the KEY is not the NEWEST, the TEXTS become COOKIE and TOKEN under the NEWEST")
    static void renewedWithoutAToken() {
        SessionGate gate = Gates.withSession();
        gate.change(1, 2, 3, 4);
        gate.erase(1);
        Check.due("request", gate.request(false), 0);
        Check.due("the texts", GateView.texts(gate), Reference.texts(1, KEY_ONE, Gates.USER, ID));
    }

    @Sentence(promise = 8, says = "if the KEY is not the NEWEST, the TEXTS become COOKIE and TOKEN under the NEWEST")
    static void renewedOverALongerToken() {
        SessionGate gate = Gates.withSession();
        gate.change(1, 2, 3, 4);
        GateView.write(gate, 1, "x".repeat(40));
        gate.request(false);
        Check.due("the texts", GateView.texts(gate), Reference.texts(1, KEY_ONE, Gates.USER, ID));
    }

    @Sentence(promise = 8, says = "if the KEY is not the NEWEST, the TEXTS become COOKIE and TOKEN under the NEWEST")
    static void notRenewedUnderTheNewest() {
        SessionGate gate = Gates.withSession();
        GateView.write(gate, 1, "other");
        Check.due("request", gate.request(false), 0);
        Check.due("the texts", GateView.texts(gate), COOKIE + " other");
        Check.due("renewed", gate.count(4), 0);
    }

    @Sentence(promise = 8, says = "if the KEY is not the NEWEST, the TEXTS become COOKIE and TOKEN under the NEWEST")
    static void notRenewedWhenRefused() {
        SessionGate gate = Gates.withSession(1000, 100, 1000);
        gate.change(1, 2, 3, 4);
        gate.pass(100);
        Check.due("OLD", gate.request(true), SessionGate.OLD);
        Check.due("GONE", gate.request(true), SessionGate.GONE);
        Check.due("the texts", GateView.texts(gate), COOKIE + " " + TOKEN);
        Check.due("renewed", gate.count(4), 0);
    }

    @Sentence(promise = 8, says = "if the KEY is not the NEWEST, the TEXTS become COOKIE and TOKEN under the NEWEST")
    static void theReplacedCookieOpensWithinGrace() {
        SessionGate gate = Gates.withSession();
        gate.change(1, 2, 3, 4);
        gate.request(true);
        GateView.write(gate, 0, COOKIE);
        GateView.write(gate, 1, TOKEN);
        Check.due("the cookie of before once more", gate.request(true), 0);
        Check.due("renewed twice", gate.count(4), 2);
    }
}
