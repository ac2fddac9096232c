import java.util.Random;

/** Long mixed runs of calls: the program and the model answer alike, and show the same state. */
public final class ModelTest {
    private static final int RUNS = 1000;
    // An object is good for 512 calls, and the look at its state behind the run takes some 120.
    private static final int CALLS = 380;
    // Small and few, so that sessions, keys and passwords meet again and edges are hit exactly.
    private static final long[] TIMES = {1, 2, 5, 9, 10, 11, 20, 0, -1, 10_000_000_000L, 10_000_000_001L};
    private static final long[] LIMITS = {1, 5, 10, 20, 40, 80, 200, 1_000_000_000_000L};
    private static final long[] BAD_LIMITS = {0, -1, 1_000_000_000_001L, Long.MIN_VALUE};
    private static final long[] SEEDS = {0, 1, -1, Long.MIN_VALUE, 81985529216486895L};

    private final Random random;
    private final String run;
    private final SessionGate gate = new SessionGate();
    private final Model model = new Model();
    private final String[] keptCookies = new String[4];
    private final String[] keptTokens = new String[4];
    private int calls = 0;

    private ModelTest(int number) {
        random = new Random(number);
        run = "run " + number;
    }

    public static void main(String[] args) {
        for (int number = 0; number < RUNS; number++) {
            new ModelTest(number).runCalls();
        }
        Check.end("ModelTest");
    }

    private void runCalls() {
        for (int user = 0; user < 8; user += 2) {
            int known = user;
            both("user", () -> told(() -> gate.user(known, known, -1)), () -> model.user(known, known, -1));
        }
        while (calls < CALLS) {
            callOne(random.nextInt(40));
        }
        compareState();
    }

    private void callOne(int kind) {
        if (kind < 8) {
            login();
        } else if (kind < 19) {
            request();
        } else if (kind < 23) {
            pass();
        } else if (kind < 26) {
            change();
        } else if (kind < 33) {
            touchTexts(kind);
        } else {
            rarer(kind);
        }
    }

    private void login() {
        int user = random.nextInt(30) == 0 ? odd() : 2 * random.nextInt(4);
        int second = random.nextInt(20) == 0 ? 0 : -1;
        both("login", () -> gate.login(user, user, second), () -> model.login(user, user, second));
    }

    private void request() {
        boolean changes = random.nextBoolean();
        if (random.nextInt(6) == 0) {
            both("logout", gate::logout, model::logout);
        } else {
            both("request", () -> gate.request(changes), () -> model.request(changes));
        }
    }

    private void pass() {
        long time = random.nextInt(50) == 0 ? oneOf(TIMES) : oneOf(TIMES, 7);
        both("pass", () -> gate.pass(time), () -> model.pass(time));
    }

    private void change() {
        int a = random.nextInt();
        int b = random.nextInt();
        int c = random.nextInt();
        int d = random.nextInt();
        both("change", () -> gate.change(a, b, c, d), () -> model.change(a, b, c, d));
    }

    private void touchTexts(int kind) {
        int which = random.nextInt(40) == 0 ? odd() : random.nextInt(2);
        int k = random.nextInt(44) - 1;
        int to = random.nextInt(10) == 0 ? odd() : 1 + random.nextInt(255);
        switch (kind) {
            case 26, 27, 28 -> keepOrBear();
            case 29 -> both("put", () -> gate.put(which, k, to), () -> model.put(which, k, to));
            case 30 -> both("erase", () -> gate.erase(which), () -> model.erase(which));
            default -> {
                int a = random.nextInt();
                int b = random.nextInt(1 << 16);
                int c = random.nextInt() & 0x00ff00ff;
                both("type", () -> gate.type(which, a, b, 0, c), () -> model.type(which, a, b, 0, c));
            }
        }
    }

    /** Keeps the texts for later, or bears kept ones again, so that older cookies come back. */
    private void keepOrBear() {
        int place = random.nextInt(keptCookies.length);
        if (keptCookies[place] == null || random.nextInt(3) == 0) {
            keptCookies[place] = model.text(0);
            keptTokens[place] = model.text(1);
            return;
        }
        bear(0, keptCookies[place]);
        bear(1, random.nextInt(8) == 0 ? model.text(1) : keptTokens[place]);
    }

    private void bear(int which, String text) {
        both("erase", () -> gate.erase(which), () -> model.erase(which));
        for (int at = 0; at < text.length(); at += 16) {
            int a = part(text, at);
            int b = part(text, at + 4);
            int c = part(text, at + 8);
            int d = part(text, at + 12);
            both("type", () -> gate.type(which, a, b, c, d), () -> model.type(which, a, b, c, d));
        }
    }

    private static int part(String text, int from) {
        int start = Math.min(from, text.length());
        return GateView.packed(text.substring(start, Math.min(start + 4, text.length())));
    }

    private void rarer(int kind) {
        int number = random.nextInt(10) - 1;
        int what = random.nextInt(9) - 1;
        switch (kind) {
            case 33 -> limits();
            case 34 -> {
                long seed = oneOf(SEEDS);
                if (random.nextInt(4) == 0) {
                    both("seed", () -> told(() -> gate.seed(seed)), () -> model.seed(seed));
                }
            }
            case 35 -> {
                if (random.nextInt(3) == 0) {
                    both("revoke", () -> gate.revoke(number), () -> model.revoke(number));
                }
            }
            case 36 -> both("octet", () -> gate.octet(4 * number), () -> model.octet(4 * number));
            case 37 -> both("count", () -> gate.count(what), () -> model.count(what));
            case 38 -> both("user", () -> told(() -> gate.user(number, number, -1)),
                    () -> model.user(number, number, -1));
            default -> both("session", () -> gate.session(number, what), () -> model.session(number, what));
        }
    }

    private void limits() {
        long grace = limit();
        long most = limit();
        long rest = limit();
        both("limits", () -> told(() -> gate.limits(grace, most, rest)), () -> model.limits(grace, most, rest));
    }

    private long limit() {
        return random.nextInt(20) == 0 ? oneOf(BAD_LIMITS) : oneOf(LIMITS);
    }

    private int odd() {
        return (int) oneOf(new long[] {-1, 0, 2, 8, 256, Integer.MIN_VALUE, Integer.MAX_VALUE});
    }

    private long oneOf(long[] numbers) {
        return oneOf(numbers, numbers.length);
    }

    private long oneOf(long[] numbers, int first) {
        return numbers[random.nextInt(first)];
    }

    private static long told(Runnable call) {
        call.run();
        return 0;
    }

    private void both(String what, Check.Call program, Check.Call due) {
        calls++;
        Check.due(run + ", call " + calls + ", " + what, Check.outcome(program), Check.outcome(due));
    }

    private void compareState() {
        for (int which = 0; which < 2; which++) {
            Check.due(run + ", text " + which, GateView.text(gate, which), model.text(which));
        }
        for (int number = 0; number < 8; number++) {
            for (int what = 0; what < 4; what++) {
                Check.due(run + ", session " + number + " " + what,
                        gate.session(number, what), model.session(number, what));
            }
        }
        for (int what = 0; what < 7; what++) {
            Check.due(run + ", count " + what, gate.count(what), model.count(what));
        }
    }
}
