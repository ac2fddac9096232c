/**
 * The document's terms. The MACs, ids, cookies and tokens that are written out here come from RFC 4231
 * or from a computation outside Java, so that a fault which Reference shared with the program would show.
 */
public final class TermsTest {
    private static final long SEED = 0x0102030405060708L;
    private static final long FIRST_ID = 0x7613862bb645070aL;
    private static final long SECOND_ID = 0xdf4c2139bc0885c9L;
    private static final String FIRST_COOKIE = "AQV2E4YrtkUHCv6iGbGONyf2GPMqJg";
    private static final String FIRST_TOKEN = "eZb9Cw7JkBWG";
    private static final String SECOND_COOKIE = "AQXfTCE5vAiFybt_PMLAsS6OYHVs8w";
    private static final String SECOND_TOKEN = "XoHFwoXxxvxA";

    public static void main(String[] args) throws IllegalAccessException {
        Sentences.run(TermsTest.class);
    }

    /** User 5 can log in, by that seed; key 1 has the bytes 00 11 22 .. ff. */
    private static SessionGate known() {
        SessionGate gate = new SessionGate();
        gate.seed(SEED);
        gate.change(0x00112233, 0x44556677, 0x8899aabb, 0xccddeeff);
        gate.user(5, 0, 0);
        return gate;
    }

    private static SessionGate knownWithSession() {
        SessionGate gate = known();
        gate.login(5, 0, 0);
        return gate;
    }

    private static String octets(SessionGate gate) {
        StringBuilder all = new StringBuilder();
        for (int k = 0; k < 32; k++) {
            all.append(String.format("%02x", gate.octet(k)));
        }
        return all.toString();
    }

    // HMAC fills a short key up with zeros, so the four bytes Jefe and this key of 16 are the same one.
    @Sentence(promise = 17, says = "MAC: HMAC with SHA-256 of some bytes under a key of bytes.")
    static void macOfRfc4231() {
        SessionGate gate = new SessionGate();
        gate.change(GateView.packed("Jefe"), 0, 0, 0);
        GateView.write(gate, 0, "what do ya want for nothing?");
        Check.due("test case 2", octets(gate),
                "5bdcc146bf60754e6a042426089575c75a003f089d2739839dec58b964ec3843");
    }

    @Sentence(promise = 17, says = "MAC: HMAC with SHA-256 of some bytes under a key of bytes.")
    static void macOfNothing() {
        Check.due("no bytes under a key of zeros", octets(new SessionGate()),
                "b613679a0814d9ec772f95d778c35fc5ff1697c493715653c6c712144292c5ad");
    }

    @Sentence(promise = 2, says = "Numbers in bytes have the highest one first.")
    static void highestByteOfTheSeedFirst() {
        Check.due("the first id", knownWithSession().session(0, 1), FIRST_ID);
        SessionGate turned = known();
        turned.seed(Long.reverseBytes(SEED));
        turned.login(5, 0, 0);
        Check.due("the id of the seed turned round", turned.session(0, 1), Reference.id(Long.reverseBytes(SEED), 0));
    }

    @Sentence(promise = 5, says = "Numbers in bytes have the highest one first.")
    static void highestByteOfTheKeyFirst() {
        for (int bit = 0; bit < 128; bit++) {
            int[] key = new int[4];
            key[bit / 32] = 1 << (31 - bit % 32);
            byte[] bytes = new byte[16];
            bytes[bit / 8] = (byte) (128 >>> (bit % 8));
            SessionGate gate = new SessionGate();
            gate.change(key[0], key[1], key[2], key[3]);
            Check.due("octet(0) under bit " + bit, gate.octet(0), Reference.mac(bytes, new byte[0])[0] & 255);
        }
    }

    @Sentence(promise = 5, says = "KEYS have a number 0 .. 255 and 16 bytes")
    static void everyNumberStandsInItsCookie() {
        SessionGate gate = known();
        for (int number = 2; number < 256; number++) {
            gate.change(0, 0, 0, number);
            if (number == 2 || number == 127 || number == 128 || number == 255) {
                gate.login(5, 0, 0);
                Check.due("the cookie's first byte", firstByte(GateView.text(gate, 0)), number);
            }
        }
    }

    private static int firstByte(String cookie) {
        return Reference.cookieBytes(cookie)[0] & 255;
    }

    @Sentence(promise = 7, says = "The NEWEST one seals.")
    static void theNewestSeals() {
        SessionGate gate = known();
        gate.login(5, 0, 0);
        Check.due("by key 1", GateView.texts(gate), FIRST_COOKIE + " " + FIRST_TOKEN);
        gate.login(5, 0, 0);
        Check.due("by key 1 again", GateView.texts(gate), SECOND_COOKIE + " " + SECOND_TOKEN);
        gate.change(0, 0, 0, 0);
        gate.login(5, 0, 0);
        Check.due("by key 2", firstByte(GateView.text(gate, 0)), 2);
    }

    @Sentence(promise = 15, says = "A SESSION has a number 0 .. 7, a USER, an ID, and two TIMES, "
            + "when it BEGAN and when it was used LAST.")
    static void whatASessionHas() {
        SessionGate gate = known();
        gate.pass(30);
        Check.due("its number", gate.login(5, 0, 0), 0);
        gate.pass(12);
        gate.request(true);
        Check.due("its user", gate.session(0, 0), 5);
        Check.due("its id", gate.session(0, 1), FIRST_ID);
        Check.due("when it began", gate.session(0, 2), 30);
        Check.due("when it was used last", gate.session(0, 3), 42);
    }

    @Sentence(promise = 7, says = "IDS: the first 8 bytes of the MAC of how many SESSIONS there were before (8 bytes)")
    static void idsThatAreKnown() {
        SessionGate gate = knownWithSession();
        gate.login(5, 0, 0);
        Check.due("the first id", gate.session(0, 1), FIRST_ID);
        Check.due("the second id, below 0", gate.session(1, 1), SECOND_ID);
    }

    @Sentence(promise = 7, says = "CODED, bytes are six bits each, the highest first, the last ones filled up with 0")
    static void codedByHand() {
        String text = GateView.text(knownWithSession(), 0);
        Check.due("01 05 76 as 000000 010000 010101 110110", text.substring(0, 4), "AQV2");
        Check.due("26, the last byte, as 001001 10 and 0000", text.substring(28), "Jg");
    }

    @Sentence(promise = 7, says = "A COOKIE is, CODED, a KEY's number, the USER, the ID (these ten are the BODY), "
            + "and the first 12 bytes of the MAC of the BODY under that KEY: 30 characters.")
    static void cookieThatIsKnown() {
        SessionGate gate = knownWithSession();
        Check.due("the first cookie", GateView.text(gate, 0), FIRST_COOKIE);
        Check.due("how long", gate.erase(0), 30);
        gate.login(5, 0, 0);
        Check.due("the second cookie", GateView.text(gate, 0), SECOND_COOKIE);
    }

    @Sentence(promise = 7, says = "A TOKEN is, CODED, the first 9 bytes of the MAC, under that KEY, "
            + "of 84 and the BODY: 12 characters.")
    static void tokenThatIsKnown() {
        SessionGate gate = knownWithSession();
        Check.due("the first token", GateView.text(gate, 1), FIRST_TOKEN);
        Check.due("how long", gate.erase(1), 12);
        gate.login(5, 0, 0);
        Check.due("the second token", GateView.text(gate, 1), SECOND_TOKEN);
    }

    @Sentence(promise = 8,
            says = "TEXTS 0 and 1, of at most 40 characters, are what a request bears: the COOKIE and the TOKEN.")
    static void textsInTheirPlaces() {
        SessionGate gate = known();
        gate.login(5, 0, 0);
        gate.login(5, 0, 0);
        GateView.write(gate, 0, FIRST_COOKIE);
        GateView.write(gate, 1, FIRST_TOKEN);
        Check.due("the first session's texts", gate.request(true), 0);
        GateView.write(gate, 0, FIRST_TOKEN);
        GateView.write(gate, 1, FIRST_COOKIE);
        Check.due("the texts changed about", gate.request(false), SessionGate.FORM);
        GateView.write(gate, 0, SECOND_COOKIE);
        GateView.write(gate, 1, SECOND_TOKEN);
        Check.due("the second session's texts", gate.request(true), 1);
    }

    @Sentence(promise = 8, says = "A REQUEST, which is to change something or not: the SESSION, or why it is refused.")
    static void sessionOrWhyNot() {
        SessionGate gate = knownWithSession();
        Check.due("to change something", gate.request(true), 0);
        Check.due("or not", gate.request(false), 0);
        gate.erase(1);
        Check.due("to change something, without a token", gate.request(true), SessionGate.WRONG);
        Check.due("or not, without a token", gate.request(false), 0);
    }

    @Sentence(promise = 8, says = "Else it is let in: LAST is NOW, and if the KEY is not the NEWEST, "
            + "the TEXTS become COOKIE and TOKEN under the NEWEST (RENEWED).")
    static void renewedToTextsThatAreKnown() {
        SessionGate gate = new SessionGate();
        gate.seed(SEED);
        gate.user(5, 0, 0);
        gate.login(5, 0, 0);
        gate.login(5, 0, 0);
        Check.due("under key 0", GateView.texts(gate), "AAXfTCE5vAiFya5eGPrnp4uf8ja_Vw S2WceSKARhwX");
        gate.change(0x00112233, 0x44556677, 0x8899aabb, 0xccddeeff);
        gate.pass(8);
        Check.due("request", gate.request(true), 1);
        Check.due("its last", gate.session(1, 3), 8);
        Check.due("under key 1", GateView.texts(gate), SECOND_COOKIE + " " + SECOND_TOKEN);
        Check.due("renewed", gate.count(4), 1);
    }
}
