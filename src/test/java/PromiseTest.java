import java.util.Arrays;

/** Each promise of the document by itself: ordinary inputs, the edges that it names, wrong inputs. */
public final class PromiseTest {
    private static final String IAE = "IllegalArgumentException";
    private static final String ISE = "IllegalStateException";
    private static final String IOOBE = "IndexOutOfBoundsException";
    private static final long MILLION = 1_000_000L;
    private static final long LARGEST_LIMIT = 1_000_000_000_000L;
    private static final byte[] KEY_ONE = Reference.key(1, 2, 3, 4);

    public static void main(String[] args) {
        promise1NewObject();
        promise2Seed();
        promise3Pass();
        promise4Limits();
        promise4LimitsBeginAtAMillion();
        promise4EachLimitByItself();
        promise5Change();
        promise5KeysKeptAndLive();
        promise6User();
        promise7Login();
        promise7LoginEndsStaleSessions();
        promise8RequestLetIn();
        promise8Form();
        promise8Key();
        promise8Seal();
        promise8Gone();
        promise8OldAndIdle();
        promise8Wrong();
        promise8OrderOfRefusals();
        promise8Renewal();
        promise9Logout();
        promise9LogoutRefused();
        promise10Revoke();
        promise11Type();
        promise12Erase();
        promise13Put();
        promise14Sign();
        promise15Session();
        promise16Count();
        promise17Octet();
        Check.end("PromiseTest");
    }

    private static void due(String what, long got, long want) {
        Check.due(what, got, want);
    }

    /** A gate on which user 3 has the password 5, 6. */
    private static SessionGate gateOfUser3() {
        SessionGate gate = new SessionGate();
        gate.user(3, 5, 6);
        return gate;
    }

    /** The same, and user 3 has just logged in to session 0. */
    private static SessionGate gateWithSession() {
        SessionGate gate = gateOfUser3();
        due("login to session 0", gate.login(3, 5, 6), 0);
        return gate;
    }

    private static void dueTexts(String what, SessionGate gate, String cookie, String token) {
        Check.due(what + ": the cookie", GateView.text(gate, 0), cookie);
        Check.due(what + ": the token", GateView.text(gate, 1), token);
    }

    private static void dueTextsUnder(String what, SessionGate gate, int number, byte[] key, long id) {
        dueTexts(what, gate, Reference.cookie(number, key, 3, id), Reference.token(number, key, 3, id));
    }

    private static void promise1NewObject() {
        SessionGate gate = new SessionGate();
        for (int number = 0; number < 8; number++) {
            for (int what = 0; what < 4; what++) {
                due("new: session " + number, gate.session(number, what), SessionGate.NONE);
            }
        }
        for (int what = 0; what < 7; what++) {
            due("new: count " + what, gate.count(what), what == 5 ? 1 : 0);
        }
        for (int user = 0; user < 8; user++) {
            due("new: no password", gate.login(user, 0, 0), SessionGate.BAD);
        }
        dueTexts("new", gate, "", "");
        due("new: now is 0", gate.pass(1), 1);
        due("new: the seed is 0", gateWithSession().session(0, 1), Reference.id(0, 0));
        dueTextsUnder("new: key 0 is of zeros", gateWithSession(), 0, Reference.ZERO_KEY, Reference.id(0, 0));
    }

    private static void promise2Seed() {
        long[] seeds = {0, 1, -1, Long.MIN_VALUE, Long.MAX_VALUE, 0x0102030405060708L};
        for (long seed : seeds) {
            SessionGate gate = gateWithSession();
            gate.seed(seed);
            due("seed " + seed + ": how many there were", gate.count(1), 0);
            due("seed " + seed + ": sessions stay", gate.count(0), 1);
            due("seed " + seed + ": requests go on", gate.request(true), 0);
            for (int before = 0; before < 7; before++) {
                due("seed " + seed + ": login", gate.login(3, 5, 6), before + 1);
                due("seed " + seed + ": id " + before,
                        gate.session(before + 1, 1), Reference.id(seed, before));
            }
            due("seed " + seed + ": sessions since", gate.count(1), 7);
        }
        SessionGate twins = gateWithSession();
        twins.seed(0);
        due("the same seed again", twins.login(3, 5, 6), 1);
        due("the same id again", twins.session(1, 1), twins.session(0, 1));
        due("of two that fit the least number", twins.request(true), 0);
        due("of two that fit the least ends", twins.logout(), 0);
        due("then the other one fits", twins.request(true), 1);
    }

    private static void promise3Pass() {
        SessionGate gate = new SessionGate();
        due("pass", gate.pass(1), 1);
        due("pass the longest", gate.pass(10_000_000_000L), 10_000_000_001L);
        due("pass again", gate.pass(41), 10_000_000_042L);
        for (long time : new long[] {0, -1, 10_000_000_001L, Long.MIN_VALUE, Long.MAX_VALUE, 1L << 32 << 20}) {
            Check.refuses("pass(" + time + ")", IAE, g -> g.pass(time));
        }
        SessionGate busy = GateView.busyGate();
        Check.outcome(() -> busy.pass(0));
        due("a refused pass leaves now", busy.pass(1), 21);
        SessionGate far = new SessionGate();
        for (int i = 1; i <= 500; i++) {
            due("pass far", far.pass(10_000_000_000L), i * 10_000_000_000L);
        }
    }

    private static void promise4Limits() {
        for (long wrong : new long[] {0, -1, LARGEST_LIMIT + 1, Long.MIN_VALUE, Long.MAX_VALUE}) {
            Check.refuses("grace " + wrong, IAE, g -> told(() -> g.limits(wrong, 1, 1)));
            Check.refuses("most " + wrong, IAE, g -> told(() -> g.limits(1, wrong, 1)));
            Check.refuses("rest " + wrong, IAE, g -> told(() -> g.limits(1, 1, wrong)));
        }
        SessionGate gate = gateWithSession();
        Check.outcome(() -> told(() -> gate.limits(1, 1, 0)));
        gate.change(1, 2, 3, 4);
        gate.pass(5);
        due("refused limits leave grace, most and rest", gate.request(true), 0);
        gate.limits(LARGEST_LIMIT, LARGEST_LIMIT, LARGEST_LIMIT);
        for (int i = 0; i < 99; i++) {
            gate.pass(10_000_000_000L);
        }
        gate.pass(9_999_999_994L);
        due("most, just not reached", gate.request(true), 0);
        due("grace, just not reached", gate.count(5), 2);
        gate.pass(1);
        due("most, the largest, reached", gate.request(true), SessionGate.OLD);
    }

    private static void promise4LimitsBeginAtAMillion() {
        SessionGate gate = gateWithSession();
        gate.change(1, 2, 3, 4);
        gate.pass(MILLION - 1);
        due("grace at first, not reached", gate.count(5), 2);
        due("most and rest at first, not reached", gate.request(true), 0);
        gate.pass(1);
        due("grace at first, reached", gate.count(5), 1);
        due("most at first, reached", gate.request(true), SessionGate.OLD);
        SessionGate resting = gateWithSession();
        resting.limits(MILLION, 2 * MILLION, MILLION);
        resting.pass(MILLION);
        due("rest reached", resting.request(true), SessionGate.IDLE);
    }

    private static void promise4EachLimitByItself() {
        SessionGate gate = gateWithSession();
        gate.limits(10, 30, 20);
        gate.change(1, 2, 3, 4);
        gate.pass(9);
        due("grace 10 at 9", gate.count(5), 2);
        gate.pass(1);
        due("grace 10 at 10", gate.count(5), 1);
        gate.limits(11, 30, 20);
        due("a longer grace lets a kept key live again", gate.count(5), 2);
        due("and it is used", gate.request(true), 0);
        gate.pass(19);
        due("rest 20 at 19, most 30 at 29", gate.request(true), 0);
        gate.pass(1);
        due("most 30 at 30", gate.request(true), SessionGate.OLD);
    }

    private static void promise5Change() {
        int[][] keys = {{1, 2, 3, 4}, {-1, 0x80000000, 0x01020304, 0xfffefdfc}, {0, 0, 0, 0}};
        SessionGate gate = gateOfUser3();
        for (int i = 0; i < keys.length; i++) {
            int[] key = keys[i];
            due("change", gate.change(key[0], key[1], key[2], key[3]), i + 1);
            due("the newest one's number", gate.count(6), i + 1);
            gate.login(3, 5, 6);
            dueTextsUnder("the newest seals", gate, i + 1,
                    Reference.key(key[0], key[1], key[2], key[3]), Reference.id(0, i));
        }
        SessionGate many = gateWithSession();
        for (int i = 1; i <= 255; i++) {
            due("change on", many.change(i, 0, 0, 0), i);
        }
        due("behind 255", many.change(9, 9, 9, 9), 0);
        due("the first key 0 is gone", many.request(false), SessionGate.SEAL);
        many.login(3, 5, 6);
        dueTextsUnder("key 0 anew", many, 0, Reference.key(9, 9, 9, 9), Reference.id(0, 1));
        due("behind 0 again", many.change(1, 1, 1, 1), 1);
        due("renewed over the turn", many.request(true), 1);
        dueTextsUnder("key 1 anew", many, 1, Reference.key(1, 1, 1, 1), Reference.id(0, 1));
        SessionGate bearing255 = gateOfUser3();
        for (int i = 1; i <= 255; i++) {
            bearing255.change(i, i, i, i);
        }
        bearing255.login(3, 5, 6);
        bearing255.change(7, 7, 7, 7);
        due("a cookie under key 255", bearing255.request(true), 0);
        due("is renewed under key 0", bearing255.count(4), 1);
    }

    private static void promise5KeysKeptAndLive() {
        SessionGate gate = gateWithSession();
        String cookie = GateView.text(gate, 0);
        for (int i = 1; i <= 3; i++) {
            gate.change(i, i, i, i);
            due("live keys", gate.count(5), i + 1);
        }
        due("the fourth oldest still opens", gate.request(false), 0);
        gate.change(4, 4, 4, 4);
        due("never more than four", gate.count(5), 4);
        GateView.write(gate, 0, cookie);
        due("the fifth is gone", gate.request(false), SessionGate.KEY);

        SessionGate aging = new SessionGate();
        aging.limits(10, MILLION, MILLION);
        aging.change(1, 1, 1, 1);
        aging.pass(4);
        aging.change(2, 2, 2, 2);
        aging.pass(5);
        due("three live", aging.count(5), 3);
        aging.pass(1);
        due("key 0 was newest 10 ago", aging.count(5), 2);
        aging.pass(4);
        due("key 1 was newest 10 ago", aging.count(5), 1);
        aging.pass(MILLION);
        due("the newest lives on", aging.count(5), 1);
    }

    private static void promise6User() {
        SessionGate gate = gateWithSession();
        gate.user(3, Integer.MIN_VALUE, -1);
        due("the old password", gate.login(3, 5, 6), SessionGate.BAD);
        due("the new password", gate.login(3, Integer.MIN_VALUE, -1), 1);
        due("the sessions stay", gate.session(0, 0), 3);
        for (int user = 0; user < 8; user++) {
            gate.user(user, user, 100 + user);
        }
        for (int user = 0; user < 6; user++) {
            due("each has its own", gate.login(user, user, 100 + user), user + 2);
            due("another's", gate.login(user, user + 1, 101 + user), SessionGate.BAD);
        }
        for (int wrong : new int[] {-1, 8, Integer.MIN_VALUE, Integer.MAX_VALUE}) {
            Check.refuses("user(" + wrong + ")", IAE, g -> told(() -> g.user(wrong, 1, 2)));
        }
    }

    private static void promise7Login() {
        SessionGate gate = gateOfUser3();
        due("the first number is wrong", gate.login(3, 4, 6), SessionGate.BAD);
        due("the second number is wrong", gate.login(3, 5, 7), SessionGate.BAD);
        due("the numbers changed about", gate.login(3, 6, 5), SessionGate.BAD);
        due("without a password", gate.login(4, 0, 0), SessionGate.BAD);
        dueTexts("BAD leaves the texts", gate, "", "");
        due("BAD begins none", gate.count(1), 0);
        gate.pass(77);
        for (int number = 0; number < 8; number++) {
            due("login", gate.login(3, 5, 6), number);
            due("its user", gate.session(number, 0), 3);
            due("its id", gate.session(number, 1), Reference.id(0, number));
            due("its beginning", gate.session(number, 2), 77);
            due("its last", gate.session(number, 3), 77);
        }
        dueTextsUnder("login", gate, 0, Reference.ZERO_KEY, Reference.id(0, 7));
        due("BAD before FULL", gate.login(3, 0, 0), SessionGate.BAD);
        due("FULL", gate.login(3, 5, 6), SessionGate.FULL);
        due("FULL begins none", gate.count(1), 8);
        dueTextsUnder("FULL leaves the texts", gate, 0, Reference.ZERO_KEY, Reference.id(0, 7));
        due("the last one leaves", gate.logout(), 7);
        due("its number is free", gate.login(3, 5, 6), 7);
        due("login is no request", gate.count(2) + gate.count(3), 1);
        for (int wrong : new int[] {-1, 8, Integer.MIN_VALUE, Integer.MAX_VALUE}) {
            Check.refuses("login(" + wrong + ")", IAE, g -> g.login(wrong, 1, 2));
        }
    }

    private static void promise7LoginEndsStaleSessions() {
        SessionGate gate = gateWithSession();
        gate.limits(1, 100, 50);
        gate.pass(1);
        due("a second session", gate.login(3, 5, 6), 1);
        gate.pass(49);
        due("BAD ends none", gate.login(3, 0, 0), SessionGate.BAD);
        due("both are there", gate.count(0), 2);
        due("the idle one's number is the least free", gate.login(3, 5, 6), 0);
        due("the other stays", gate.session(1, 2), 1);
        gate.limits(1, 99, 1000);
        gate.pass(49);
        due("not old at 98", gate.login(3, 5, 6), 2);
        gate.pass(1);
        due("old at 99", gate.login(3, 5, 6), 1);
        due("three are there", gate.count(0), 3);
        gate.limits(1, 1, 1);
        gate.pass(1);
        due("all are old", gate.login(3, 5, 6), 0);
        due("all others ended", gate.count(0), 1);
    }

    private static void promise8RequestLetIn() {
        SessionGate gate = gateOfUser3();
        gate.login(3, 5, 6);
        gate.login(3, 5, 6);
        gate.pass(20);
        String before = GateView.text(gate, 0) + GateView.text(gate, 1);
        due("request", gate.request(false), 1);
        due("last is now", gate.session(1, 3), 20);
        due("it began before", gate.session(1, 2), 0);
        due("the other one's last", gate.session(0, 3), 0);
        gate.pass(1);
        due("request that changes", gate.request(true), 1);
        due("last is now again", gate.session(1, 3), 21);
        Check.due("under the newest key the texts stay", GateView.text(gate, 0) + GateView.text(gate, 1), before);
        due("none renewed", gate.count(4), 0);
        gate.put(1, 0, gate.sign(1, 0) == 65 ? 66 : 65);
        due("the token does not matter without changes", gate.request(false), 1);
        gate.erase(1);
        due("nor does it if it is empty", gate.request(false), 1);
    }

    private static void promise8Form() {
        String good = GateView.text(gateWithSession(), 0);
        dueForm("", SessionGate.FORM);
        dueForm(good.substring(0, 29), SessionGate.FORM);
        dueForm(good + "A", SessionGate.FORM);
        dueForm(good + "AAAAAAAAAA", SessionGate.FORM);
        dueForm(good, 0);
        for (int at = 0; at < 30; at++) {
            dueForm(good.substring(0, at) + "=" + good.substring(at + 1), SessionGate.FORM);
        }
        String coding = "ABCDEFGHIJKLMNOPQRSTUVWXYZabcdefghijklmnopqrstuvwxyz0123456789-_";
        for (char sign = 1; sign < 256; sign++) {
            boolean coded = coding.indexOf(sign) >= 0;
            String middle = good.substring(0, 14) + sign + good.substring(15);
            dueForm(middle, middle.equals(good) ? 0 : coded ? SessionGate.SEAL : SessionGate.FORM);
            String end = good.substring(0, 29) + sign;
            dueForm(end, end.equals(good) ? 0 : "AQgw".indexOf(sign) >= 0 ? SessionGate.SEAL : SessionGate.FORM);
        }
    }

    private static void dueForm(String cookie, int want) {
        SessionGate gate = gateWithSession();
        GateView.write(gate, 0, cookie);
        due("request with " + cookie, gate.request(true), want);
        Check.due("the cookie stays", GateView.text(gate, 0), cookie);
    }

    private static void promise8Key() {
        long id = Reference.id(0, 0);
        for (int number = 1; number < 256; number++) {
            dueForm(Reference.cookie(number, Reference.ZERO_KEY, 3, id), SessionGate.KEY);
        }
        SessionGate aging = gateWithSession();
        aging.limits(10, 1000, 1000);
        String cookie = GateView.text(aging, 0);
        aging.pass(50);
        aging.change(1, 2, 3, 4);
        aging.pass(9);
        due("within grace", aging.request(true), 0);
        GateView.write(aging, 0, cookie);
        aging.pass(1);
        due("grace is over", aging.request(true), SessionGate.KEY);
        due("the session stays", aging.count(0), 1);
    }

    private static void promise8Seal() {
        long id = Reference.id(0, 0);
        byte[] bytes = Reference.cookieBytes(Reference.cookie(0, Reference.ZERO_KEY, 3, id));
        for (int at = 1; at < 22; at++) {
            byte[] other = bytes.clone();
            other[at] ^= 1;
            dueForm(Reference.coded(other), SessionGate.SEAL);
            other[at] ^= (byte) 129;
            dueForm(Reference.coded(other), SessionGate.SEAL);
        }
        dueForm(Reference.cookie(0, KEY_ONE, 3, id), SessionGate.SEAL);
        SessionGate gate = gateWithSession();
        gate.change(1, 2, 3, 4);
        GateView.write(gate, 0, Reference.cookie(1, Reference.ZERO_KEY, 3, id));
        due("sealed by another live key", gate.request(false), SessionGate.SEAL);
        GateView.write(gate, 0, Reference.cookie(1, KEY_ONE, 3, id));
        due("sealed by its key", gate.request(false), 0);
    }

    private static void promise8Gone() {
        long id = Reference.id(0, 0);
        dueForm(Reference.cookie(0, Reference.ZERO_KEY, 3, id + 1), SessionGate.GONE);
        dueForm(Reference.cookie(0, Reference.ZERO_KEY, 3, id ^ Long.MIN_VALUE), SessionGate.GONE);
        dueForm(Reference.cookie(0, Reference.ZERO_KEY, 2, id), SessionGate.GONE);
        dueForm(Reference.cookie(0, Reference.ZERO_KEY, 255, id), SessionGate.GONE);
        dueForm(Reference.cookie(0, Reference.ZERO_KEY, 0, 0), SessionGate.GONE);
        SessionGate gate = new SessionGate();
        GateView.write(gate, 0, Reference.cookie(0, Reference.ZERO_KEY, 0, 0));
        due("no session is there", gate.request(false), SessionGate.GONE);
        SessionGate left = gateWithSession();
        left.logout();
        due("the session was left", left.request(true), SessionGate.GONE);
    }

    private static void promise8OldAndIdle() {
        SessionGate gate = gateWithSession();
        gate.limits(1, 100, 60);
        gate.pass(59);
        due("rest 60 at 59", gate.request(true), 0);
        gate.pass(40);
        due("most 100 at 99", gate.request(true), 0);
        gate.pass(1);
        due("most 100 at 100", gate.request(true), SessionGate.OLD);
        due("it ended", gate.session(0, 0), SessionGate.NONE);
        due("and is gone", gate.request(true), SessionGate.GONE);

        gate.login(3, 5, 6);
        gate.pass(60);
        due("rest 60 at 60", gate.request(false), SessionGate.IDLE);
        due("it ended too", gate.session(0, 3), SessionGate.NONE);
        due("and is gone too", gate.request(false), SessionGate.GONE);

        gate.login(3, 5, 6);
        gate.login(3, 5, 6);
        gate.pass(100);
        due("OLD before IDLE", gate.request(true), SessionGate.OLD);
        due("the other old one stays", gate.count(0), 1);
        due("it is the one not asked for", gate.session(0, 0), 3);
    }

    private static void promise8Wrong() {
        SessionGate gate = gateWithSession();
        String token = GateView.text(gate, 1);
        gate.pass(5);
        String[] others = {"", token.substring(0, 11), token + "A", token.substring(1) + "A", token + token,
            Reference.token(0, KEY_ONE, 3, Reference.id(0, 0)), GateView.text(gate, 0).substring(0, 12)};
        for (String other : others) {
            GateView.write(gate, 1, other);
            due("another token " + other, gate.request(true), SessionGate.WRONG);
            due("WRONG leaves last", gate.session(0, 3), 0);
            due("WRONG ends nothing", gate.count(0), 1);
        }
        for (int k = 0; k < 12; k++) {
            GateView.write(gate, 1, token);
            gate.put(1, k, token.charAt(k) == 'A' ? 'B' : 'A');
            due("another character " + k, gate.request(true), SessionGate.WRONG);
        }
        GateView.write(gate, 1, token);
        due("the token again", gate.request(true), 0);
        gate.change(1, 2, 3, 4);
        GateView.write(gate, 1, Reference.token(1, KEY_ONE, 3, gate.session(0, 1)));
        due("the newest key's token with an older cookie", gate.request(true), SessionGate.WRONG);
        due("WRONG renews nothing", gate.count(4), 0);
    }

    private static void promise8OrderOfRefusals() {
        SessionGate gate = gateWithSession();
        long id = gate.session(0, 1);
        gate.erase(1);
        gate.pass(MILLION);
        GateView.write(gate, 0, Reference.cookie(9, KEY_ONE, 4, id) + "A");
        due("FORM first", gate.request(true), SessionGate.FORM);
        GateView.write(gate, 0, Reference.cookie(9, KEY_ONE, 4, id));
        due("then KEY", gate.request(true), SessionGate.KEY);
        GateView.write(gate, 0, Reference.cookie(0, KEY_ONE, 4, id));
        due("then SEAL", gate.request(true), SessionGate.SEAL);
        GateView.write(gate, 0, Reference.cookie(0, Reference.ZERO_KEY, 4, id));
        due("then GONE", gate.request(true), SessionGate.GONE);
        due("none of these ends it", gate.count(0), 1);
        GateView.write(gate, 0, Reference.cookie(0, Reference.ZERO_KEY, 3, id));
        due("then OLD, before WRONG", gate.request(true), SessionGate.OLD);
        gate.limits(1, 2 * MILLION, 5);
        gate.login(3, 5, 6);
        gate.erase(1);
        gate.pass(5);
        due("IDLE before WRONG", gate.request(true), SessionGate.IDLE);
    }

    private static void promise8Renewal() {
        SessionGate gate = gateWithSession();
        long id = gate.session(0, 1);
        gate.change(1, 2, 3, 4);
        due("let in by the older key", gate.request(true), 0);
        dueTextsUnder("renewed", gate, 1, KEY_ONE, id);
        due("renewed once", gate.count(4), 1);
        due("let in by the newest key", gate.request(true), 0);
        due("not renewed again", gate.count(4), 1);
        gate.change(0, 0, 0, 0);
        gate.erase(1);
        due("renewed without changes", gate.request(false), 0);
        dueTextsUnder("the token is new too", gate, 2, Reference.ZERO_KEY, id);
        due("renewed twice", gate.count(4), 2);
        due("the id stays", gate.session(0, 1), id);
    }

    private static void promise9Logout() {
        SessionGate gate = gateOfUser3();
        gate.login(3, 5, 6);
        gate.login(3, 5, 6);
        String cookie = GateView.text(gate, 0);
        String token = GateView.text(gate, 1);
        gate.change(1, 2, 3, 4);
        due("logout", gate.logout(), 1);
        due("its session ended", gate.session(1, 0), SessionGate.NONE);
        due("the other one stays", gate.session(0, 0), 3);
        dueTexts("logout leaves the texts", gate, cookie, token);
        due("it is not renewed", gate.count(4), 0);
        due("it is let in", gate.count(2), 1);
        due("once more", gate.logout(), SessionGate.GONE);
        due("that is refused", gate.count(3), 1);
    }

    private static void promise9LogoutRefused() {
        SessionGate gate = new SessionGate();
        due("FORM", gate.logout(), SessionGate.FORM);
        GateView.write(gate, 0, Reference.cookie(1, Reference.ZERO_KEY, 3, 1));
        due("KEY", gate.logout(), SessionGate.KEY);
        GateView.write(gate, 0, Reference.cookie(0, KEY_ONE, 3, 1));
        due("SEAL", gate.logout(), SessionGate.SEAL);
        gate.user(3, 5, 6);
        gate.limits(1, 100, 50);
        gate.login(3, 5, 6);
        gate.put(1, 0, 1);
        due("WRONG", gate.logout(), SessionGate.WRONG);
        due("WRONG ends nothing", gate.count(0), 1);
        gate.pass(50);
        due("IDLE", gate.logout(), SessionGate.IDLE);
        due("IDLE ends it", gate.count(0), 0);
        gate.login(3, 5, 6);
        gate.pass(100);
        due("OLD", gate.logout(), SessionGate.OLD);
        due("OLD ends it", gate.count(0), 0);
        due("all refused", gate.count(3), 6);
        due("none let in", gate.count(2), 0);
    }

    private static void promise10Revoke() {
        SessionGate gate = gateOfUser3();
        gate.user(4, 0, 0);
        gate.user(0, 0, 0);
        int[] users = {3, 4, 3, 4, 3};
        for (int user : users) {
            gate.login(user, user == 3 ? 5 : 0, user == 3 ? 6 : 0);
        }
        due("revoke a user without sessions", gate.revoke(0), 0);
        due("all are there", gate.count(0), 5);
        due("revoke", gate.revoke(3), 3);
        due("two are left", gate.count(0), 2);
        due("of the other user", gate.session(1, 0) + gate.session(3, 0), 8);
        due("the cookie's session is gone", gate.request(false), SessionGate.GONE);
        due("revoke again", gate.revoke(3), 0);
        due("the password stays", gate.login(3, 5, 6), 0);
        gate.pass(MILLION);
        due("old ones that have not ended count", gate.revoke(4), 2);
        for (int wrong : new int[] {-1, 8, 9, Integer.MIN_VALUE, Integer.MAX_VALUE}) {
            Check.refuses("revoke(" + wrong + ")", IAE, g -> g.revoke(wrong));
        }
    }

    private static void promise11Type() {
        SessionGate gate = new SessionGate();
        due("sixteen", gate.type(0, 0x01020304, 0x7f8081ff, 0x41424344, 0xfffefdfc), 16);
        Check.due("the highest byte first", GateView.text(gate, 0),
                "\u0001\u0002\u0003\u0004\u007f\u0080\u0081\u00ffABCD\u00ff\u00fe\u00fd\u00fc");
        due("a byte 0 is none", gate.type(0, 0x45004600, 0x00000047, 0, 0x48000000), 20);
        Check.due("what is there follows on", GateView.text(gate, 0).substring(16), "EFGH");
        due("nothing more", gate.type(0, 0, 0, 0, 0), 20);
        Check.due("the other text stays", GateView.text(gate, 1), "");
        due("the token", gate.type(1, 0, 0, 0, 0x61), 1);
        Check.due("is text 1", GateView.text(gate, 1), "a");
        due("up to 36", gate.type(0, 0x41414141, 0x41414141, 0x41414141, 0x41414141), 36);
        due("up to 40", gate.type(0, 0, 0x00420042, 0, 0x42004200), 40);
        due("nothing more at 40", gate.type(0, 0, 0, 0, 0), 40);
        String full = GateView.text(gate, 0);
        Check.due("one more than 40", Check.outcome(() -> gate.type(0, 0, 0, 0, 1)), "throws." + ISE);
        Check.due("the full text stays", GateView.text(gate, 0), full);
        Check.refuses("type over 40", ISE, g -> g.type(0, 0x41414141, 0x41414141, 0x41414100, 0));
        due("type to 40 on 30", GateView.busyGate().type(0, 0x41414141, 0x41414141, 0x41410000, 0), 40);
        for (int wrong : new int[] {-1, 2, Integer.MIN_VALUE, Integer.MAX_VALUE}) {
            Check.refuses("type(" + wrong + ")", IAE, g -> g.type(wrong, 65, 0, 0, 0));
        }
    }

    private static void promise12Erase() {
        SessionGate gate = gateWithSession();
        String token = GateView.text(gate, 1);
        due("erase the cookie", gate.erase(0), 30);
        dueTexts("erase 0", gate, "", token);
        due("erase the empty one", gate.erase(0), 0);
        due("erase the token", gate.erase(1), 12);
        dueTexts("erase 1", gate, "", "");
        due("type behind erase", gate.type(1, 0, 0, 0, 66), 1);
        for (int wrong : new int[] {-1, 2, Integer.MIN_VALUE, Integer.MAX_VALUE}) {
            Check.refuses("erase(" + wrong + ")", IAE, g -> g.erase(wrong));
        }
    }

    private static void promise13Put() {
        SessionGate gate = gateWithSession();
        String cookie = GateView.text(gate, 0);
        String token = GateView.text(gate, 1);
        due("put at the first", gate.put(0, 0, 1), cookie.charAt(0));
        due("put at the last", gate.put(0, 29, 255), cookie.charAt(29));
        due("put in the token", gate.put(1, 11, 66), token.charAt(11));
        dueTexts("put", gate, "\u0001" + cookie.substring(1, 29) + "\u00ff", token.substring(0, 11) + "B");
        due("what it was", gate.put(0, 29, 7), 255);
        for (int wrong : new int[] {-1, 2, Integer.MIN_VALUE, Integer.MAX_VALUE}) {
            Check.refuses("put(" + wrong + ", ..)", IAE, g -> g.put(wrong, 0, 65));
        }
        for (int wrong : new int[] {0, -1, 256, Integer.MIN_VALUE, Integer.MAX_VALUE}) {
            Check.refuses("put(.., " + wrong + ")", IAE, g -> g.put(0, 0, wrong));
            Check.refuses("put at no place to " + wrong, IAE, g -> g.put(0, 40, wrong));
        }
        for (int wrong : new int[] {-1, 30, 39, 40, Integer.MIN_VALUE, Integer.MAX_VALUE}) {
            Check.refuses("put(0, " + wrong + ", ..)", IOOBE, g -> g.put(0, wrong, 65));
        }
        Check.refuses("put(1, 12, ..)", IOOBE, g -> g.put(1, 12, 65));
        Check.due("put in an empty text", Check.outcome(() -> new SessionGate().put(0, 0, 65)), "throws." + IOOBE);
    }

    private static void promise14Sign() {
        SessionGate gate = new SessionGate();
        gate.type(0, 0x41ff0180, 0, 0, 0);
        int[] signs = {0x41, 0xff, 0x01, 0x80, SessionGate.NONE};
        for (int k = 0; k < signs.length; k++) {
            due("sign " + k, gate.sign(0, k), signs[k]);
        }
        due("the other text", gate.sign(1, 0), SessionGate.NONE);
        for (int k : new int[] {-1, 39, 40, Integer.MIN_VALUE, Integer.MAX_VALUE}) {
            due("no such character " + k, gate.sign(0, k), SessionGate.NONE);
        }
        gate.erase(0);
        due("an erased character", gate.sign(0, 0), SessionGate.NONE);
        for (int wrong : new int[] {-1, 2, Integer.MIN_VALUE, Integer.MAX_VALUE}) {
            Check.refuses("sign(" + wrong + ")", IAE, g -> g.sign(wrong, 0));
        }
    }

    private static void promise15Session() {
        SessionGate gate = gateOfUser3();
        gate.user(7, 0, 0);
        gate.seed(99);
        gate.pass(10_000_000_000L);
        gate.login(7, 0, 0);
        gate.pass(3);
        gate.login(3, 5, 6);
        gate.pass(4);
        gate.request(true);
        long[][] want = {
            {7, Reference.id(99, 0), 10_000_000_000L, 10_000_000_000L},
            {3, Reference.id(99, 1), 10_000_000_003L, 10_000_000_007L},
            {-1, -1, -1, -1},
        };
        for (int number = 0; number < want.length; number++) {
            for (int what = 0; what < 4; what++) {
                due("session(" + number + ", " + what + ")", gate.session(number, what), want[number][what]);
            }
        }
        gate.pass(MILLION);
        due("an old one that has not ended", gate.session(0, 0), 7);
        for (int wrong : new int[] {-1, 8, Integer.MIN_VALUE, Integer.MAX_VALUE}) {
            Check.refuses("session(" + wrong + ", 0)", IAE, g -> g.session(wrong, 0));
        }
        for (int wrong : new int[] {-1, 4, Integer.MIN_VALUE, Integer.MAX_VALUE}) {
            Check.refuses("session(0, " + wrong + ")", IAE, g -> g.session(0, wrong));
            Check.refuses("session(7, " + wrong + ") of none", IAE, g -> g.session(7, wrong));
        }
    }

    private static void promise16Count() {
        SessionGate gate = gateOfUser3();
        gate.limits(10, 20, 20);
        gate.request(false);
        gate.logout();
        gate.login(3, 5, 6);
        gate.request(false);
        dueCounts("session 0 let in", gate, 1, 1, 1, 2, 0, 1, 0);
        gate.login(3, 5, 6);
        gate.login(3, 5, 6);
        gate.change(1, 2, 3, 4);
        gate.request(true);
        gate.logout();
        dueCounts("busy", gate, 2, 3, 3, 2, 1, 2, 1);
        gate.pass(20);
        dueCounts("old and idle ones count", gate, 2, 3, 3, 2, 1, 1, 1);
        gate.login(3, 5, 6);
        dueCounts("until they end", gate, 1, 4, 3, 2, 1, 1, 1);
        gate.seed(5);
        dueCounts("seed", gate, 1, 0, 3, 2, 1, 1, 1);
        for (int wrong : new int[] {-1, 7, Integer.MIN_VALUE, Integer.MAX_VALUE}) {
            Check.refuses("count(" + wrong + ")", IAE, g -> g.count(wrong));
        }
    }

    private static void dueCounts(String what, SessionGate gate, int... want) {
        int[] got = new int[want.length];
        for (int i = 0; i < want.length; i++) {
            got[i] = gate.count(i);
        }
        Check.due("counts, " + what, Arrays.toString(got), Arrays.toString(want));
    }

    private static void promise17Octet() {
        StringBuilder text = new StringBuilder();
        for (int length = 0; length <= 40; length++) {
            SessionGate gate = new SessionGate();
            GateView.write(gate, 0, text.toString());
            GateView.write(gate, 1, "else");
            dueOctets(gate, Reference.ZERO_KEY, text.toString());
            gate.change(-1, 0x80, 0x01020304, length);
            dueOctets(gate, Reference.key(-1, 0x80, 0x01020304, length), text.toString());
            text.append((char) (255 - 6 * length));
        }
        for (int wrong : new int[] {-1, 32, Integer.MIN_VALUE, Integer.MAX_VALUE}) {
            Check.refuses("octet(" + wrong + ")", IAE, g -> g.octet(wrong));
        }
    }

    private static void dueOctets(SessionGate gate, byte[] key, String text) {
        byte[] mac = Reference.mac(key, Reference.latin(text));
        for (int k = 0; k < 32; k++) {
            due("octet " + k + " of " + text.length(), gate.octet(k), mac[k] & 255);
        }
    }

    private static long told(Runnable call) {
        call.run();
        return 0;
    }
}
