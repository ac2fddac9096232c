/** Reads and writes the gate's texts and state through its face alone. */
final class GateView {
    private GateView() {
    }

    static String text(SessionGate gate, int which) {
        StringBuilder text = new StringBuilder();
        for (int k = 0; k < 41; k++) {
            int sign = gate.sign(which, k);
            if (sign == SessionGate.NONE) {
                break;
            }
            text.append((char) sign);
        }
        return text.toString();
    }

    static String texts(SessionGate gate) {
        return text(gate, 0) + " " + text(gate, 1);
    }

    static void write(SessionGate gate, int which, String text) {
        gate.erase(which);
        for (int at = 0; at < text.length(); at += 4) {
            gate.type(which, packed(text.substring(at, Math.min(at + 4, text.length()))), 0, 0, 0);
        }
    }

    /** Up to four characters in one number; where there are fewer, the highest bytes are 0. */
    static int packed(String signs) {
        int number = 0;
        for (int i = 0; i < signs.length(); i++) {
            number = (number << 8) | signs.charAt(i);
        }
        return number;
    }

    static String sessions(SessionGate gate) {
        StringBuilder all = new StringBuilder();
        for (int number = 0; number < 8; number++) {
            for (int what = 0; what < 4; what++) {
                all.append(gate.session(number, what)).append(' ');
            }
        }
        return all.toString();
    }

    static String counts(SessionGate gate) {
        StringBuilder all = new StringBuilder();
        for (int what = 0; what < 7; what++) {
            all.append(gate.count(what)).append(' ');
        }
        return all.toString();
    }

    /** All that the face shows of a gate now. */
    static String seen(SessionGate gate) {
        return texts(gate) + "|" + sessions(gate) + "|" + counts(gate) + "|" + gate.octet(0);
    }

    /**
     * All of a busy gate, the time, limits, seed and passwords too, which only later answers show: the
     * times that pass here meet each limit of Gates.busy just before it is reached and as it is.
     */
    static String everything(SessionGate gate) {
        StringBuilder all = new StringBuilder(seen(gate));
        all.append('|').append(gate.pass(89)).append(' ').append(gate.count(5));
        all.append(' ').append(gate.pass(1)).append(' ').append(gate.count(5));
        all.append(' ').append(gate.pass(59)).append(' ').append(gate.request(false));
        all.append(' ').append(gate.pass(40)).append(' ').append(gate.request(false));
        all.append(' ').append(gate.pass(1)).append(' ').append(gate.request(false));
        for (int user = 0; user < 8; user++) {
            all.append(' ').append(gate.login(user, 0, 0));
        }
        all.append(' ').append(gate.login(7, 3, 4)).append(' ').append(gate.login(0, 1, 2));
        all.append(' ').append(gate.pass(150)).append(' ').append(gate.request(true));
        return all.append('|').append(seen(gate)).toString();
    }
}
