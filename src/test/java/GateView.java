/** Reads and writes the gate's texts and state through its face alone. */
final class GateView {
    private GateView() {
    }

    /** A gate with sessions, keys, counts and texts that differ from those of a new one. */
    static SessionGate busyGate() {
        SessionGate gate = new SessionGate();
        gate.seed(7);
        gate.user(0, 1, 2);
        gate.user(7, 3, 4);
        gate.request(false);
        gate.login(0, 1, 2);
        gate.pass(10);
        gate.login(7, 3, 4);
        gate.change(1, 2, 3, 4);
        gate.pass(10);
        gate.request(true);
        return gate;
    }

    static String text(SessionGate gate, int which) {
        StringBuilder text = new StringBuilder();
        for (int k = 0; k < 41; k++) {
            int sign = gate.sign(which, k);
            if (sign == SessionGate.NONE) {
                break;
            }
            text.append((char) sign);
        }
        return text.toString();
    }

    static void write(SessionGate gate, int which, String text) {
        gate.erase(which);
        for (int at = 0; at < text.length(); at += 4) {
            gate.type(which, packed(text.substring(at, Math.min(at + 4, text.length()))), 0, 0, 0);
        }
    }

    /** Up to four characters in one number; where there are fewer, the highest bytes are 0. */
    static int packed(String signs) {
        int number = 0;
        for (int i = 0; i < signs.length(); i++) {
            number = (number << 8) | signs.charAt(i);
        }
        return number;
    }

    static String everything(SessionGate gate) {
        StringBuilder all = new StringBuilder();
        all.append(text(gate, 0)).append('|').append(text(gate, 1)).append('|');
        for (int number = 0; number < 8; number++) {
            for (int what = 0; what < 4; what++) {
                all.append(gate.session(number, what)).append(' ');
            }
        }
        all.append('|');
        for (int what = 0; what < 7; what++) {
            all.append(gate.count(what)).append(' ');
        }
        all.append(gate.octet(0));
        return all.toString();
    }
}
