/** Gates that many tests begin with. */
final class Gates {
    static final int USER = 3;

    private Gates() {
    }

    /** User 3 has the password 5, 6. */
    static SessionGate ofUser3() {
        SessionGate gate = new SessionGate();
        gate.user(USER, 5, 6);
        return gate;
    }

    static int login(SessionGate gate) {
        return gate.login(USER, 5, 6);
    }

    /** User 3 has just logged in to session 0, with id 0 of seed 0 under key 0. */
    static SessionGate withSession() {
        SessionGate gate = ofUser3();
        login(gate);
        return gate;
    }

    /** The same with these limits told before. */
    static SessionGate withSession(long grace, long most, long rest) {
        SessionGate gate = ofUser3();
        gate.limits(grace, most, rest);
        login(gate);
        return gate;
    }

    /** All eight sessions are user 3's. */
    static SessionGate full() {
        SessionGate gate = ofUser3();
        for (int i = 0; i < 8; i++) {
            login(gate);
        }
        return gate;
    }

    /** Sessions, keys, counts, limits and texts that all differ from those of a new gate. */
    static SessionGate busy() {
        SessionGate gate = new SessionGate();
        gate.seed(7);
        gate.limits(100, 200, 150);
        gate.user(0, 1, 2);
        gate.user(7, 3, 4);
        gate.request(false);
        gate.login(0, 1, 2);
        gate.pass(10);
        gate.login(7, 3, 4);
        gate.change(1, 2, 3, 4);
        gate.pass(10);
        gate.request(true);
        return gate;
    }

    /** The same, when all its sessions are old and idle and none has ended. */
    static SessionGate stale() {
        SessionGate gate = busy();
        gate.pass(1000);
        return gate;
    }
}
