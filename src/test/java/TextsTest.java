/** Promises 11 to 14 and 17: type, erase, put, sign and octet. */
public final class TextsTest {
    private static final int FOUR = 0x41424344;

    public static void main(String[] args) throws IllegalAccessException {
        Sentences.run(TextsTest.class);
    }

    /** Both texts have so many characters x. */
    private static SessionGate withLength(int length) {
        SessionGate gate = new SessionGate();
        GateView.write(gate, 0, "x".repeat(length));
        GateView.write(gate, 1, "x".repeat(length));
        return gate;
    }

    private static void dueTyped(int length, String more, int a, int b, int c, int d) {
        for (int which = 0; which < 2; which++) {
            SessionGate gate = withLength(length);
            Check.due("type", gate.type(which, a, b, c, d), length + more.length());
            Check.due("the text", GateView.text(gate, which), "x".repeat(length) + more);
            Check.due("the other one", GateView.text(gate, 1 - which), "x".repeat(length));
        }
    }

    @Sentence(promise = 11, says = "Up to sixteen characters more of a TEXT")
    static void typeSixteen() {
        dueTyped(0, "ABCDEFGHIJKLMNOP", 0x41424344, 0x45464748, 0x494a4b4c, 0x4d4e4f50);
    }

    @Sentence(promise = 11, says = "Up to sixteen characters more of a TEXT")
    static void typeNone() {
        dueTyped(0, "", 0, 0, 0, 0);
        dueTyped(7, "", 0, 0, 0, 0);
        dueTyped(40, "", 0, 0, 0, 0);
    }

    @Sentence(promise = 11, says = "four in each number, the highest byte first")
    static void typeEveryCharacter() {
        for (int sign = 1; sign < 256; sign++) {
            String one = String.valueOf((char) sign);
            dueTyped(0, one, sign << 24, 0, 0, 0);
            dueTyped(0, one, 0, sign << 16, 0, 0);
            dueTyped(0, one, 0, 0, sign << 8, 0);
            dueTyped(0, one, 0, 0, 0, sign);
            dueTyped(0, one.repeat(16), sign * 0x01010101, sign * 0x01010101, sign * 0x01010101, sign * 0x01010101);
        }
    }

    @Sentence(promise = 11, says = "four in each number, the highest byte first")
    static void typeTheHighestBits() {
        dueTyped(3, "\u00ff\u00fe\u00fd\u00fc\u0080\u0001\u0002\u0003", 0xfffefdfc, 0x80010203, 0, 0);
        dueTyped(3, "\u0080", Integer.MIN_VALUE, 0, 0, 0);
        dueTyped(3, "\u007f\u00ff\u00ff\u00ff", 0, 0, 0, Integer.MAX_VALUE);
    }

    @Sentence(promise = 11, says = "a byte 0 is none")
    static void typeWithGaps() {
        dueTyped(2, "EFGH", 0x45004600, 0x00000047, 0, 0x48000000);
        dueTyped(2, "AB", 0x00410000, 0, 0, 0x00000042);
        dueTyped(2, "ABCD", 0x41000000, 0x00420000, 0x00004300, 0x00000044);
    }

    // Which bytes are 0 is all that matters for how many there are.
    @Sentence(promise = 11, says = "a byte 0 is none")
    static void typeEveryGap() {
        for (int gaps = 0; gaps < 65536; gaps += 97) {
            int[] numbers = new int[4];
            StringBuilder signs = new StringBuilder();
            for (int k = 0; k < 16; k++) {
                if ((gaps >> k & 1) == 0) {
                    numbers[k / 4] |= (97 + k) << (24 - 8 * (k % 4));
                    signs.append((char) (97 + k));
                }
            }
            dueTyped(0, signs.toString(), numbers[0], numbers[1], numbers[2], numbers[3]);
        }
    }

    @Sentence(promise = 11, says = "How many it has.")
    static void typeAnswersTheWholeLength() {
        SessionGate gate = new SessionGate();
        for (int length = 1; length <= 40; length++) {
            Check.due("one more in text 1", gate.type(1, 0, 0x41, 0, 0), length);
        }
        Check.due("three in the other one", gate.type(0, 0x00414243, 0, 0, 0), 3);
        Check.due("none more", gate.type(1, 0, 0, 0, 0), 40);
    }

    @Sentence(promise = 11, says = "IllegalState: it would have more than 40.")
    static void typeUpTo40() {
        dueTyped(24, "ABCDABCDABCDABCD", FOUR, FOUR, FOUR, FOUR);
        dueTyped(39, "Z", 0, 0, 0, 0x5a);
        dueTyped(39, "Z", 0x5a000000, 0, 0, 0);
        dueTyped(36, "BBBB", 0, 0x00420042, 0, 0x42004200);
    }

    @Sentence(promise = 11, says = "IllegalState: it would have more than 40.")
    static void typeOneTooMany() {
        for (int text = 0; text < 2; text++) {
            int which = text;
            Check.refuses("one on 40", Check.ISE, () -> withLength(40), gate -> gate.type(which, 0, 0, 0, 1));
            Check.refuses("two on 39", Check.ISE, () -> withLength(39), gate -> gate.type(which, 0x41, 0, 0, 0x42));
            Check.refuses("sixteen on 25", Check.ISE, () -> withLength(25),
                    gate -> gate.type(which, FOUR, FOUR, FOUR, FOUR));
            Check.refuses("fifteen on 26", Check.ISE, () -> withLength(26),
                    gate -> gate.type(which, FOUR, FOUR, FOUR, FOUR & 0xffffff00));
        }
    }

    @Sentence(promise = 11, says = "IllegalState: it would have more than 40.")
    static void typeFarTooMany() {
        for (int length = 25; length <= 40; length++) {
            int had = length;
            Check.refuses("sixteen on " + had, Check.ISE, () -> withLength(had),
                    gate -> gate.type(0, FOUR, FOUR, FOUR, FOUR));
        }
        Check.refuses("eleven on a cookie", Check.ISE, gate -> gate.type(0, FOUR, FOUR, FOUR & 0xffffff00, 0));
        Check.due("ten on a cookie", Gates.busy().type(0, FOUR, FOUR, FOUR & 0xffff0000, 0), 40);
    }

    @Sentence(promise = 11, says = "IllegalState: it would have more than 40.")
    static void typeFitsAgainBehindARefusal() {
        SessionGate gate = withLength(39);
        Check.outcome(() -> gate.type(0, 0x4142, 0, 0, 0));
        Check.due("one that fits", gate.type(0, 0x43, 0, 0, 0), 40);
        Check.due("it is the last", gate.sign(0, 39), 0x43);
    }

    @Sentence(promise = 11, says = "IllegalArgument: which is not 0, 1.")
    static void typeInNoText() {
        for (int wrong : Wrong.TEXTS) {
            Check.refuses("type(" + wrong + ", ..)", Check.IAE, gate -> gate.type(wrong, 65, 0, 0, 0));
            Check.refuses("type(" + wrong + ") of none", Check.IAE, gate -> gate.type(wrong, 0, 0, 0, 0));
        }
    }

    // Of two faults the one that the document names first.
    @Sentence(promise = 11, says = "IllegalArgument: which is not 0, 1.")
    static void typeInNoTextTooMuch() {
        for (int wrong : Wrong.TEXTS) {
            Check.refuses("type(" + wrong + ", ..) too much", Check.IAE, () -> withLength(40),
                    gate -> gate.type(wrong, FOUR, FOUR, FOUR, FOUR));
        }
    }

    @Sentence(promise = 12, says = "A TEXT is empty: how many characters it had.")
    static void eraseEveryLength() {
        for (int length = 0; length <= 40; length++) {
            for (int which = 0; which < 2; which++) {
                SessionGate gate = withLength(length);
                Check.due("erase", gate.erase(which), length);
                Check.due("the text", GateView.text(gate, which), "");
                Check.due("the other one", GateView.text(gate, 1 - which), "x".repeat(length));
            }
        }
    }

    @Sentence(promise = 12, says = "A TEXT is empty: how many characters it had.")
    static void eraseAnEmptyOne() {
        SessionGate gate = withLength(40);
        gate.erase(0);
        Check.due("erase again", gate.erase(0), 0);
        Check.due("erase text 0 of a new object", new SessionGate().erase(0), 0);
        Check.due("erase text 1 of a new object", new SessionGate().erase(1), 0);
    }

    @Sentence(promise = 12, says = "A TEXT is empty: how many characters it had.")
    static void typeBehindErase() {
        SessionGate gate = withLength(40);
        gate.erase(1);
        Check.due("type", gate.type(1, FOUR, 0, 0, 0), 4);
        Check.due("the text", GateView.text(gate, 1), "ABCD");
        Check.due("what was there", gate.sign(1, 4), SessionGate.NONE);
    }

    @Sentence(promise = 12, says = "IllegalArgument.")
    static void eraseNoText() {
        for (int wrong : Wrong.TEXTS) {
            Check.refuses("erase(" + wrong + ")", Check.IAE, gate -> gate.erase(wrong));
        }
    }

    @Sentence(promise = 13, says = "Character k of a TEXT becomes another one: what it was.")
    static void putAtEveryPlace() {
        for (int which = 0; which < 2; which++) {
            for (int k = 0; k < 40; k++) {
                SessionGate gate = withLength(40);
                Check.due("put", gate.put(which, k, 'y'), 'x');
                Check.due("the text", GateView.text(gate, which), "x".repeat(k) + "y" + "x".repeat(39 - k));
                Check.due("the other one", GateView.text(gate, 1 - which), "x".repeat(40));
                Check.due("put again", gate.put(which, k, 'z'), 'y');
            }
        }
    }

    @Sentence(promise = 13, says = "Character k of a TEXT becomes another one: what it was.")
    static void putTheSameOne() {
        SessionGate gate = Gates.withSession();
        String texts = GateView.texts(gate);
        Check.due("put", gate.put(0, 0, texts.charAt(0)), texts.charAt(0));
        Check.due("the texts", GateView.texts(gate), texts);
        Check.due("request", gate.request(true), 0);
    }

    @Sentence(promise = 13, says = "to is not 1 .. 255")
    static void putEveryCharacter() {
        for (int to = 1; to < 256; to++) {
            SessionGate gate = withLength(1);
            Check.due("put " + to, gate.put(1, 0, to), 'x');
            Check.due("sign", gate.sign(1, 0), to);
            Check.due("what it was", gate.put(1, 0, 'x'), to);
        }
    }

    @Sentence(promise = 13, says = "IllegalArgument: which, or to is not 1 .. 255.")
    static void putNoCharacter() {
        for (int wrong : Wrong.SIGNS) {
            Check.refuses("put(0, 0, " + wrong + ")", Check.IAE, gate -> gate.put(0, 0, wrong));
            Check.refuses("put(1, 11, " + wrong + ")", Check.IAE, gate -> gate.put(1, 11, wrong));
        }
    }

    @Sentence(promise = 13, says = "IllegalArgument: which, or to is not 1 .. 255.")
    static void putInNoText() {
        for (int wrong : Wrong.TEXTS) {
            Check.refuses("put(" + wrong + ", 0, 65)", Check.IAE, gate -> gate.put(wrong, 0, 65));
        }
    }

    // Of two faults the one that the document names first.
    @Sentence(promise = 13, says = "IllegalArgument: which, or to is not 1 .. 255.")
    static void putWithTwoFaults() {
        for (int place : new int[] {-1, 30, 40}) {
            Check.refuses("put(0, " + place + ", 0)", Check.IAE, gate -> gate.put(0, place, 0));
            Check.refuses("put(0, " + place + ", 256)", Check.IAE, gate -> gate.put(0, place, 256));
            Check.refuses("put(2, " + place + ", 65)", Check.IAE, gate -> gate.put(2, place, 65));
            Check.refuses("put(-1, " + place + ", 65)", Check.IAE, gate -> gate.put(-1, place, 65));
        }
    }

    @Sentence(promise = 13, says = "IndexOutOfBounds: there is no such character.")
    static void putBeforeTheFirst() {
        Check.refuses("put(0, -1, 65)", Check.IOOBE, gate -> gate.put(0, -1, 65));
        Check.refuses("put(1, -1, 65)", Check.IOOBE, gate -> gate.put(1, -1, 65));
        Check.refuses("put(0, least, 65)", Check.IOOBE, gate -> gate.put(0, Integer.MIN_VALUE, 65));
    }

    @Sentence(promise = 13, says = "IndexOutOfBounds: there is no such character.")
    static void putBehindTheLast() {
        Check.refuses("put(0, 30, 65)", Check.IOOBE, gate -> gate.put(0, 30, 65));
        Check.refuses("put(1, 12, 65)", Check.IOOBE, gate -> gate.put(1, 12, 65));
        Check.refuses("put(1, 29, 65)", Check.IOOBE, gate -> gate.put(1, 29, 65));
        Check.refuses("put(0, 39, 65)", Check.IOOBE, gate -> gate.put(0, 39, 65));
        Check.refuses("put(0, 256, 65)", Check.IOOBE, gate -> gate.put(0, 256, 65));
        Check.refuses("put(0, largest, 65)", Check.IOOBE, gate -> gate.put(0, Integer.MAX_VALUE, 65));
    }

    @Sentence(promise = 13, says = "IndexOutOfBounds: there is no such character.")
    static void putInAFullText() {
        for (int place : new int[] {-1, 40, 41, Integer.MIN_VALUE, Integer.MAX_VALUE}) {
            Check.refuses("put(0, " + place + ", 65)", Check.IOOBE, () -> withLength(40),
                    gate -> gate.put(0, place, 65));
        }
    }

    @Sentence(promise = 13, says = "IndexOutOfBounds: there is no such character.")
    static void putInAnEmptyText() {
        for (int which = 0; which < 2; which++) {
            int empty = which;
            Check.refuses("put in a new one", Check.IOOBE, SessionGate::new, gate -> gate.put(empty, 0, 65));
            SessionGate gate = withLength(40);
            gate.erase(empty);
            Check.due("put in an erased one", Check.outcome(() -> gate.put(empty, 0, 65)), "throws." + Check.IOOBE);
        }
    }

    @Sentence(promise = 14, says = "Character k of a TEXT, as a number; NONE.")
    static void signOfEveryCharacter() {
        for (int sign = 1; sign < 256; sign++) {
            SessionGate gate = new SessionGate();
            gate.type(0, sign, 0, 0, 0);
            gate.type(1, 256 - sign, 0, 0, 0);
            Check.due("sign(0, 0)", gate.sign(0, 0), sign);
            Check.due("sign(1, 0)", gate.sign(1, 0), 256 - sign);
        }
    }

    @Sentence(promise = 14, says = "Character k of a TEXT, as a number; NONE.")
    static void signAtTheEnds() {
        for (int length = 0; length <= 40; length++) {
            SessionGate gate = withLength(length);
            for (int which = 0; which < 2; which++) {
                for (int k = -1; k <= 41; k++) {
                    int want = k >= 0 && k < length ? 'x' : SessionGate.NONE;
                    Check.due("sign " + k + " of " + length, gate.sign(which, k), want);
                }
            }
        }
    }

    // The document tells no bounds of k: where there is no character the answer is NONE.
    @Sentence(promise = 14, says = "Character k of a TEXT, as a number; NONE.")
    static void signFarOff() {
        for (int k : new int[] {-1, -40, 40, 256, 1 << 16, Integer.MIN_VALUE, Integer.MAX_VALUE}) {
            Check.due("sign(0, " + k + ")", withLength(40).sign(0, k), SessionGate.NONE);
            Check.due("sign(1, " + k + ")", Gates.busy().sign(1, k), SessionGate.NONE);
        }
    }

    @Sentence(promise = 14, says = "IllegalArgument.")
    static void signOfNoText() {
        for (int wrong : Wrong.TEXTS) {
            Check.refuses("sign(" + wrong + ", 0)", Check.IAE, gate -> gate.sign(wrong, 0));
            Check.refuses("sign(" + wrong + ", 40)", Check.IAE, gate -> gate.sign(wrong, 40));
            Check.refuses("sign(" + wrong + ", -1)", Check.IAE, gate -> gate.sign(wrong, -1));
        }
    }

    private static void dueOctets(SessionGate gate, byte[] key, String text) {
        byte[] mac = Reference.mac(key, Reference.latin(text));
        for (int k = 0; k < 32; k++) {
            Check.due("octet(" + k + ") of " + text.length(), gate.octet(k), mac[k] & 255);
        }
    }

    @Sentence(promise = 17, says = "the MAC of TEXT 0's characters")
    static void octetsOfEveryLength() {
        StringBuilder text = new StringBuilder();
        for (int length = 0; length <= 40; length++) {
            SessionGate gate = new SessionGate();
            GateView.write(gate, 0, text.toString());
            GateView.write(gate, 1, "else");
            dueOctets(gate, Reference.ZERO_KEY, text.toString());
            text.append((char) (255 - 6 * length));
        }
    }

    @Sentence(promise = 17, says = "the MAC of TEXT 0's characters")
    static void octetsBehindALongerText() {
        SessionGate gate = withLength(40);
        gate.octet(0);
        gate.erase(0);
        dueOctets(gate, Reference.ZERO_KEY, "");
        gate.type(0, FOUR, 0, 0, 0);
        dueOctets(gate, Reference.ZERO_KEY, "ABCD");
    }

    @Sentence(promise = 17, says = "under the NEWEST KEY")
    static void octetsUnderTheNewest() {
        int[][] keys = {{-1, -1, -1, -1}, {1, 2, 3, 4}, {Integer.MIN_VALUE, 128, 255, 0x01020304}, {0, 0, 0, 0}};
        SessionGate gate = withLength(5);
        for (int[] key : keys) {
            gate.change(key[0], key[1], key[2], key[3]);
            dueOctets(gate, Reference.key(key[0], key[1], key[2], key[3]), "xxxxx");
        }
    }

    @Sentence(promise = 17, says = "Byte k, 0 .. 31")
    static void octetsAreBytes() {
        SessionGate gate = Gates.busy();
        String cookie = GateView.text(gate, 0);
        byte[] mac = Reference.mac(Reference.key(1, 2, 3, 4), Reference.latin(cookie));
        Check.due("the first", gate.octet(0), mac[0] & 255);
        Check.due("the last", gate.octet(31), mac[31] & 255);
    }

    @Sentence(promise = 17, says = "Byte k, 0 .. 31")
    static void octetChangesNothing() {
        SessionGate gate = Gates.busy();
        gate.octet(0);
        gate.octet(31);
        Check.due("everything", GateView.everything(gate), GateView.everything(Gates.busy()));
    }

    @Sentence(promise = 17, says = "IllegalArgument.")
    static void octetOutside() {
        for (int wrong : new int[] {-1, 32, 33, 64, 256, -32, Integer.MIN_VALUE, Integer.MAX_VALUE}) {
            Check.refuses("octet(" + wrong + ")", Check.IAE, gate -> gate.octet(wrong));
        }
    }
}
