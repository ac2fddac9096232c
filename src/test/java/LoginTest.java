/** Promises 6, 7 and 10: user, login and revoke. */
public final class LoginTest {
    public static void main(String[] args) throws IllegalAccessException {
        Sentences.run(LoginTest.class);
    }

    @Sentence(promise = 6, says = "USERS are 0 .. 7, each with a PASSWORD of two numbers, once it was told.")
    static void eachUserHasItsOwn() {
        SessionGate gate = new SessionGate();
        for (int user = 0; user < 8; user++) {
            gate.user(user, user, 100 + user);
        }
        for (int user = 0; user < 8; user++) {
            Check.due("another's password", gate.login(user, (user + 1) % 8, 100 + (user + 1) % 8), SessionGate.BAD);
            Check.due("its own password", gate.login(user, user, 100 + user), user);
        }
    }

    @Sentence(promise = 6, says = "USERS are 0 .. 7, each with a PASSWORD of two numbers, once it was told.")
    static void oneTellingIsForOneUser() {
        for (int told = 0; told < 8; told++) {
            SessionGate gate = new SessionGate();
            gate.user(told, 0, 0);
            for (int user = 0; user < 8; user++) {
                Check.due("user " + user + " when " + told + " was told",
                        gate.login(user, 0, 0), user == told ? 0 : SessionGate.BAD);
            }
        }
    }

    @Sentence(promise = 6, says = "A USER's PASSWORD.")
    static void everyNumberMayBeAPassword() {
        int[] numbers = {0, 1, -1, Integer.MIN_VALUE, Integer.MAX_VALUE};
        for (int a : numbers) {
            for (int b : numbers) {
                SessionGate gate = new SessionGate();
                gate.user(7, a, b);
                Check.due("login with " + a + ", " + b, gate.login(7, a, b), 0);
                Check.due("login with others", gate.login(7, a ^ Integer.MIN_VALUE, b), SessionGate.BAD);
            }
        }
    }

    @Sentence(promise = 6, says = "A USER's PASSWORD.")
    static void toldAgain() {
        SessionGate gate = Gates.ofUser3();
        gate.user(Gates.USER, 5, 7);
        Check.due("the one before", Gates.login(gate), SessionGate.BAD);
        Check.due("the new one", gate.login(Gates.USER, 5, 7), 0);
        gate.user(Gates.USER, 5, 7);
        Check.due("the same told again", gate.login(Gates.USER, 5, 7), 1);
    }

    @Sentence(promise = 6, says = "Its SESSIONS stay.")
    static void sessionsStay() {
        SessionGate gate = Gates.withSession();
        String before = GateView.seen(gate);
        gate.user(Gates.USER, 0, 0);
        Check.due("all that is seen", GateView.seen(gate), before);
        Check.due("request", gate.request(true), 0);
    }

    @Sentence(promise = 6, says = "IllegalArgument.")
    static void userOutside() {
        for (int wrong : Wrong.USERS) {
            Check.refusesOrder("user(" + wrong + ", 0, 0)", Check.IAE, gate -> gate.user(wrong, 0, 0));
        }
    }

    @Sentence(promise = 7, says = "BAD, without a PASSWORD")
    static void withoutAPassword() {
        SessionGate gate = Gates.ofUser3();
        Check.due("login(4, 0, 0)", gate.login(4, 0, 0), SessionGate.BAD);
        Check.due("login(4, 5, 6)", gate.login(4, 5, 6), SessionGate.BAD);
    }

    @Sentence(promise = 7, says = "or with another one")
    static void withAnotherPassword() {
        for (int bit = 0; bit < 32; bit++) {
            SessionGate gate = Gates.ofUser3();
            Check.due("the first number", gate.login(Gates.USER, 5 ^ (1 << bit), 6), SessionGate.BAD);
            Check.due("the second number", gate.login(Gates.USER, 5, 6 ^ (1 << bit)), SessionGate.BAD);
            Check.due("both numbers", gate.login(Gates.USER, 5 ^ (1 << bit), 6 ^ (1 << bit)), SessionGate.BAD);
        }
        Check.due("changed about", Gates.ofUser3().login(Gates.USER, 6, 5), SessionGate.BAD);
    }

    @Sentence(promise = 7, says = "else SESSIONS that are OLD or IDLE end")
    static void badEndsNone() {
        SessionGate gate = Gates.stale();
        String before = GateView.seen(gate);
        Check.due("another password", gate.login(0, 2, 1), SessionGate.BAD);
        Check.due("without a password", gate.login(1, 0, 0), SessionGate.BAD);
        Check.due("all that is seen", GateView.seen(gate), before);
    }

    @Sentence(promise = 7, says = "SESSIONS that are OLD or IDLE end")
    static void oldOnesEnd() {
        SessionGate gate = Gates.withSession(1, 100, 1000);
        gate.pass(99);
        Check.due("one before MOST", Gates.login(gate), 1);
        gate.pass(1);
        Check.due("at MOST", Gates.login(gate), 0);
        Check.due("it is another session", gate.session(0, 1), Reference.id(0, 2));
        Check.due("sessions", gate.count(0), 2);
    }

    @Sentence(promise = 7, says = "SESSIONS that are OLD or IDLE end")
    static void idleOnesEnd() {
        SessionGate gate = Gates.withSession(1, 1000, 100);
        gate.pass(50);
        gate.request(false);
        gate.pass(99);
        Check.due("one before REST", Gates.login(gate), 1);
        gate.pass(1);
        Check.due("at REST", Gates.login(gate), 0);
        Check.due("it is another session", gate.session(0, 1), Reference.id(0, 2));
        Check.due("sessions", gate.count(0), 2);
    }

    @Sentence(promise = 7, says = "SESSIONS that are OLD or IDLE end")
    static void allOfThemEnd() {
        SessionGate gate = Gates.full();
        gate.pass(1_000_000);
        Check.due("they have not ended", gate.count(0), 8);
        Check.due("login", Gates.login(gate), 0);
        Check.due("the others ended", gate.count(0), 1);
        Check.due("they are no refused requests", gate.count(3), 0);
    }

    @Sentence(promise = 7, says = "SESSIONS that are OLD or IDLE end")
    static void thoseOfOtherUsersEndToo() {
        SessionGate gate = Gates.stale();
        gate.user(5, 1, 1);
        Check.due("login of another user", gate.login(5, 1, 1), 0);
        Check.due("sessions", gate.count(0), 1);
        Check.due("its user", gate.session(0, 0), 5);
    }

    @Sentence(promise = 7, says = "FULL, if there are eight")
    static void theEighthIsLetIn() {
        SessionGate gate = Gates.ofUser3();
        for (int number = 0; number < 8; number++) {
            Check.due("login", Gates.login(gate), number);
        }
        Check.due("sessions", gate.count(0), 8);
    }

    @Sentence(promise = 7, says = "FULL, if there are eight")
    static void theNinthIsNot() {
        SessionGate gate = Gates.full();
        gate.change(1, 2, 3, 4);
        String before = GateView.seen(gate);
        Check.due("login", Gates.login(gate), SessionGate.FULL);
        Check.due("login again", Gates.login(gate), SessionGate.FULL);
        Check.due("all that is seen", GateView.seen(gate), before);
    }

    @Sentence(promise = 7, says = "FULL, if there are eight")
    static void fullOneBeforeOneIsOld() {
        SessionGate gate = Gates.full();
        gate.pass(999_999);
        Check.due("one before MOST", Gates.login(gate), SessionGate.FULL);
        gate.pass(1);
        Check.due("at MOST", Gates.login(gate), 0);
    }

    @Sentence(promise = 7, says = "FULL, if there are eight")
    static void badBeforeFull() {
        SessionGate gate = Gates.full();
        Check.due("another password", gate.login(Gates.USER, 0, 0), SessionGate.BAD);
        Check.due("without a password", gate.login(0, 0, 0), SessionGate.BAD);
    }

    @Sentence(promise = 7, says = "the least number that is free")
    static void theLeastFreeNumber() {
        SessionGate gate = Gates.ofUser3();
        gate.user(4, 0, 0);
        int[] users = {3, 4, 3, 4, 3, 3, 3, 4};
        for (int user : users) {
            gate.login(user, user == 3 ? 5 : 0, user == 3 ? 6 : 0);
        }
        gate.revoke(4);
        for (int number : new int[] {1, 3, 7}) {
            Check.due("login", Gates.login(gate), number);
        }
        Check.due("then", Gates.login(gate), SessionGate.FULL);
        gate.logout();
        Check.due("the last number again", Gates.login(gate), 7);
    }

    @Sentence(promise = 7, says = "begun and used NOW")
    static void begunAndUsedNow() {
        SessionGate gate = Gates.ofUser3();
        gate.pass(10_000_000_000L);
        Gates.login(gate);
        Check.due("its beginning", gate.session(0, 2), 10_000_000_000L);
        Check.due("its last", gate.session(0, 3), 10_000_000_000L);
    }

    @Sentence(promise = 7, says = "begun and used NOW")
    static void aPlaceUsedAgainKeepsNothing() {
        SessionGate gate = Gates.withSession();
        gate.user(7, 1, 1);
        gate.logout();
        gate.pass(70);
        gate.login(7, 1, 1);
        Check.due("all of it", GateView.sessions(gate).substring(0, GateView.sessions(gate).indexOf(" -1 ")),
                "7 " + Reference.id(0, 1) + " 70 70");
    }

    @Sentence(promise = 7, says = "the TEXTS are its COOKIE and TOKEN under the NEWEST KEY")
    static void textsUnderTheNewest() {
        SessionGate gate = Gates.ofUser3();
        gate.change(1, 2, 3, 4);
        gate.change(5, 6, 7, 8);
        Gates.login(gate);
        Check.due("the texts", GateView.texts(gate),
                Reference.texts(2, Reference.key(5, 6, 7, 8), Gates.USER, Reference.id(0, 0)));
    }

    @Sentence(promise = 7, says = "the TEXTS are its COOKIE and TOKEN under the NEWEST KEY")
    static void nothingOfLongerTextsStays() {
        SessionGate gate = Gates.ofUser3();
        String longest = "x".repeat(40);
        GateView.write(gate, 0, longest);
        GateView.write(gate, 1, longest);
        Gates.login(gate);
        Check.due("the texts", GateView.texts(gate),
                Reference.texts(0, Reference.ZERO_KEY, Gates.USER, Reference.id(0, 0)));
        Check.due("characters of the cookie", gate.erase(0), 30);
        Check.due("characters of the token", gate.erase(1), 12);
    }

    @Sentence(promise = 7, says = "the TEXTS are its COOKIE and TOKEN under the NEWEST KEY")
    static void textsOfEachUser() {
        for (int user = 0; user < 8; user++) {
            SessionGate gate = new SessionGate();
            gate.user(user, 0, 0);
            gate.login(user, 0, 0);
            Check.due("the texts", GateView.texts(gate),
                    Reference.texts(0, Reference.ZERO_KEY, user, Reference.id(0, 0)));
        }
    }

    @Sentence(promise = 7, says = "A .. Z, a .. z, 0 .. 9, - and _ for 0 .. 63")
    static void everySignIsCoded() {
        StringBuilder met = new StringBuilder();
        for (int seed = 0; seed < 20; seed++) {
            SessionGate gate = Gates.ofUser3();
            gate.seed(seed);
            Gates.login(gate);
            Check.due("the texts", GateView.texts(gate),
                    Reference.texts(0, Reference.ZERO_KEY, Gates.USER, Reference.id(seed, 0)));
            met.append(GateView.texts(gate));
        }
        Check.due("characters met", met.chars().filter(sign -> sign != ' ').distinct().count(), 64);
    }

    @Sentence(promise = 7, says = "IllegalArgument.")
    static void loginOutside() {
        for (int wrong : Wrong.USERS) {
            Check.refuses("login(" + wrong + ", 1, 2)", Check.IAE, gate -> gate.login(wrong, 1, 2));
            Check.refuses("login(" + wrong + ", 3, 4)", Check.IAE, gate -> gate.login(wrong, 3, 4));
        }
    }

    @Sentence(promise = 7, says = "What throws changes nothing.")
    static void loginOutsideEndsNone() {
        Check.refuses("login(8, ..) with old sessions", Check.IAE, Gates::stale, gate -> gate.login(8, 1, 2));
        Check.refuses("login(-1, ..) with old sessions", Check.IAE, Gates::stale, gate -> gate.login(-1, 3, 4));
        Check.refuses("login(8, ..) of a full gate", Check.IAE, Gates::full, gate -> gate.login(8, 5, 6));
    }

    @Sentence(promise = 10, says = "All SESSIONS of a USER end: how many.")
    static void allEightEnd() {
        SessionGate gate = Gates.full();
        Check.due("revoke", gate.revoke(Gates.USER), 8);
        Check.due("sessions", gate.count(0), 0);
        Check.due("request", gate.request(true), SessionGate.GONE);
        Check.due("login", Gates.login(gate), 0);
    }

    @Sentence(promise = 10, says = "All SESSIONS of a USER end: how many.")
    static void noneToEnd() {
        SessionGate gate = Gates.busy();
        String before = GateView.seen(gate);
        for (int user = 1; user < 7; user++) {
            Check.due("revoke(" + user + ")", gate.revoke(user), 0);
        }
        Check.due("all that is seen", GateView.seen(gate), before);
        Check.due("revoke", gate.revoke(0), 1);
        Check.due("revoke again", gate.revoke(0), 0);
    }

    @Sentence(promise = 10, says = "All SESSIONS of a USER end: how many.")
    static void thoseOfOthersStay() {
        for (int revoked = 0; revoked < 8; revoked++) {
            SessionGate gate = new SessionGate();
            for (int user = 0; user < 8; user++) {
                gate.user(user, 0, 0);
                gate.login(user, 0, 0);
            }
            Check.due("revoke(" + revoked + ")", gate.revoke(revoked), 1);
            for (int number = 0; number < 8; number++) {
                Check.due("session " + number, gate.session(number, 0), number == revoked ? SessionGate.NONE : number);
            }
        }
    }

    @Sentence(promise = 10, says = "All SESSIONS of a USER end: how many.")
    static void oldAndIdleOnesCount() {
        SessionGate gate = Gates.stale();
        Check.due("revoke(0)", gate.revoke(0), 1);
        Check.due("revoke(7)", gate.revoke(7), 1);
        Check.due("sessions", gate.count(0), 0);
    }

    @Sentence(promise = 10, says = "All SESSIONS of a USER end: how many.")
    static void endedOnesDoNotCount() {
        SessionGate gate = Gates.ofUser3();
        Gates.login(gate);
        Gates.login(gate);
        gate.logout();
        Check.due("revoke", gate.revoke(Gates.USER), 1);
    }

    @Sentence(promise = 10, says = "All SESSIONS of a USER end: how many.")
    static void revokeLeavesTheRest() {
        SessionGate gate = Gates.busy();
        String texts = GateView.texts(gate);
        gate.revoke(7);
        Check.due("the texts", GateView.texts(gate), texts);
        Check.due("the counts", GateView.counts(gate), "1 2 1 1 1 2 1 ");
        Check.due("the password", gate.login(7, 3, 4), 1);
    }

    @Sentence(promise = 10, says = "IllegalArgument.")
    static void revokeOutside() {
        for (int wrong : Wrong.USERS) {
            Check.refuses("revoke(" + wrong + ")", Check.IAE, gate -> gate.revoke(wrong));
        }
    }
}
