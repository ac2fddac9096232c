/**
 * A gate for sessions: who logs in gets a cookie that is sealed by a key, and a token that belongs
 * to it; requests bear both; keys are changed from time to time, sessions end when they are old,
 * idle, left or taken away.
 */
public final class SessionGate {
    public static final int NONE = -1;
    public static final int FORM = -2;
    public static final int KEY = -3;
    public static final int SEAL = -4;
    public static final int GONE = -5;
    public static final int OLD = -6;
    public static final int IDLE = -7;
    public static final int WRONG = -8;
    public static final int BAD = -9;
    public static final int FULL = -10;

    private static final int USERS = 8;
    private static final int SESSIONS = 8;
    private static final int ID_BYTES = 8;
    private static final int BODY_BYTES = 10;
    private static final int SEAL_BYTES = 12;
    private static final int COOKIE_BYTES = 22;
    private static final int COOKIE_SIGNS = 30;
    private static final int TOKEN_BYTES = 9;
    private static final int TOKEN_MARK = 84;
    private static final int TEXT_SIGNS = 40;
    private static final long FIRST_LIMIT = 1_000_000L;
    private static final long LONGEST_PASS = 10_000_000_000L;
    private static final long LARGEST_LIMIT = 1_000_000_000_000L;

    private final Mac mac = new Mac();
    private final KeyRing keys = new KeyRing();
    private final Text cookie = new Text();
    private final Text token = new Text();
    private final Text dueToken = new Text();
    private final User[] users = new User[USERS];
    private final Session[] sessions = new Session[SESSIONS];
    private final int[] seedBytes = new int[ID_BYTES];
    private final int[] countBytes = new int[ID_BYTES];
    private final int[] cookieBytes = new int[COOKIE_BYTES];
    private final int[] markedBody = new int[BODY_BYTES + 1];
    private long now = 0;
    private long grace = FIRST_LIMIT;
    private long most = FIRST_LIMIT;
    private long rest = FIRST_LIMIT;
    private int begunSinceSeed = 0;
    private int letIn = 0;
    private int refused = 0;
    private int renewed = 0;

    public SessionGate() {
        for (int i = 0; i < USERS; i++) {
            users[i] = new User();
        }
        for (int i = 0; i < SESSIONS; i++) {
            sessions[i] = new Session();
        }
    }

    public void seed(long number) {
        writeLong(number, seedBytes, 0);
        begunSinceSeed = 0;
    }

    public long pass(long time) throws IllegalArgumentException {
        if (time < 1 || time > LONGEST_PASS) {
            throw new IllegalArgumentException();
        }
        now += time;
        return now;
    }

    public void limits(long grace, long most, long rest) throws IllegalArgumentException {
        if (!isLimit(grace) || !isLimit(most) || !isLimit(rest)) {
            throw new IllegalArgumentException();
        }
        this.grace = grace;
        this.most = most;
        this.rest = rest;
    }

    public int change(int a, int b, int c, int d) {
        keys.advance(now);
        Key key = keys.newest();
        key.fill(a, b, c, d);
        return key.number;
    }

    public void user(int user, int a, int b) throws IllegalArgumentException {
        if (!isUser(user)) {
            throw new IllegalArgumentException();
        }
        users[user].tell(a, b);
    }

    public int login(int user, int a, int b) throws IllegalArgumentException {
        if (!isUser(user)) {
            throw new IllegalArgumentException();
        }
        if (!users[user].knows(a, b)) {
            return BAD;
        }
        endStaleSessions();
        int number = freeNumber();
        if (number == NONE) {
            return FULL;
        }
        sessions[number].begin(user, nextId(), now);
        begunSinceSeed++;
        writeTexts(sessions[number]);
        return number;
    }

    public int request(boolean changes) {
        int answer = judge(changes);
        tally(answer);
        if (answer >= 0) {
            sessions[answer].last = now;
            // The numbers of the keys that are kept all differ, so the number alone tells the newest.
            if (cookieBytes[0] != keys.newest().number) {
                writeTexts(sessions[answer]);
                renewed++;
            }
        }
        return answer;
    }

    public int logout() {
        int answer = judge(true);
        tally(answer);
        if (answer >= 0) {
            sessions[answer].open = false;
        }
        return answer;
    }

    public int revoke(int user) throws IllegalArgumentException {
        if (!isUser(user)) {
            throw new IllegalArgumentException();
        }
        int ended = 0;
        for (int i = 0; i < SESSIONS; i++) {
            if (sessions[i].open && sessions[i].owner == user) {
                sessions[i].open = false;
                ended++;
            }
        }
        return ended;
    }

    public int type(int which, int a, int b, int c, int d)
            throws IllegalArgumentException, IllegalStateException {
        if (!isText(which)) {
            throw new IllegalArgumentException();
        }
        Text text = textOf(which);
        int more = signsIn(a) + signsIn(b) + signsIn(c) + signsIn(d);
        if (text.length + more > TEXT_SIGNS) {
            throw new IllegalStateException();
        }
        text.addSigns(a);
        text.addSigns(b);
        text.addSigns(c);
        text.addSigns(d);
        return text.length;
    }

    public int erase(int which) throws IllegalArgumentException {
        if (!isText(which)) {
            throw new IllegalArgumentException();
        }
        Text text = textOf(which);
        int had = text.length;
        text.length = 0;
        return had;
    }

    public int put(int which, int k, int to)
            throws IllegalArgumentException, IndexOutOfBoundsException {
        if (!isText(which) || to < 1 || to > 255) {
            throw new IllegalArgumentException();
        }
        Text text = textOf(which);
        if (!text.has(k)) {
            throw new IndexOutOfBoundsException();
        }
        int was = text.signs[k];
        text.signs[k] = to;
        return was;
    }

    public int sign(int which, int k) throws IllegalArgumentException {
        if (!isText(which)) {
            throw new IllegalArgumentException();
        }
        Text text = textOf(which);
        return text.has(k) ? text.signs[k] : NONE;
    }

    public long session(int number, int what) throws IllegalArgumentException {
        if (number < 0 || number >= SESSIONS || what < 0 || what > 3) {
            throw new IllegalArgumentException();
        }
        Session asked = sessions[number];
        if (!asked.open) {
            return NONE;
        }
        switch (what) {
            case 0:
                return asked.owner;
            case 1:
                return asked.id;
            case 2:
                return asked.began;
            default:
                return asked.last;
        }
    }

    public int count(int what) throws IllegalArgumentException {
        switch (what) {
            case 0:
                return openSessions();
            case 1:
                return begunSinceSeed;
            case 2:
                return letIn;
            case 3:
                return refused;
            case 4:
                return renewed;
            case 5:
                return keys.liveOnes(now, grace);
            case 6:
                return keys.newest().number;
            default:
                throw new IllegalArgumentException();
        }
    }

    public int octet(int k) throws IllegalArgumentException {
        if (k < 0 || k >= Mac.BYTES) {
            throw new IllegalArgumentException();
        }
        mac.compute(keys.newest().bytes, cookie.signs, cookie.length);
        return mac.bytes[k];
    }

    private static boolean isLimit(long limit) {
        return limit >= 1 && limit <= LARGEST_LIMIT;
    }

    private static boolean isUser(int user) {
        return user >= 0 && user < USERS;
    }

    private static boolean isText(int which) {
        return which == 0 || which == 1;
    }

    private Text textOf(int which) {
        return which == 0 ? cookie : token;
    }

    private int openSessions() {
        int open = 0;
        for (int i = 0; i < SESSIONS; i++) {
            if (sessions[i].open) {
                open++;
            }
        }
        return open;
    }

    private int freeNumber() {
        for (int i = 0; i < SESSIONS; i++) {
            if (!sessions[i].open) {
                return i;
            }
        }
        return NONE;
    }

    private void endStaleSessions() {
        for (int i = 0; i < SESSIONS; i++) {
            if (isOld(sessions[i]) || isIdle(sessions[i])) {
                sessions[i].open = false;
            }
        }
    }

    private boolean isOld(Session asked) {
        return now - asked.began >= most;
    }

    private boolean isIdle(Session asked) {
        return now - asked.last >= rest;
    }

    private long nextId() {
        writeLong(begunSinceSeed, countBytes, 0);
        mac.compute(seedBytes, countBytes, ID_BYTES);
        return readLong(mac.bytes, 0);
    }

    /** The session that the texts are let in to, or why they are refused. */
    private int judge(boolean changes) {
        if (!Coder.decodeCookie(cookie, cookieBytes)) {
            return FORM;
        }
        Key key = keys.liveKey(cookieBytes[0], now, grace);
        if (key == null) {
            return KEY;
        }
        if (!isSealedBy(key)) {
            return SEAL;
        }
        int number = numberOf(cookieBytes[1], readLong(cookieBytes, 2));
        if (number == NONE) {
            return GONE;
        }
        if (isOld(sessions[number])) {
            sessions[number].open = false;
            return OLD;
        }
        if (isIdle(sessions[number])) {
            sessions[number].open = false;
            return IDLE;
        }
        if (changes) {
            writeToken(key, dueToken);
            return token.isSameAs(dueToken) ? number : WRONG;
        }
        return number;
    }

    private boolean isSealedBy(Key key) {
        mac.compute(key.bytes, cookieBytes, BODY_BYTES);
        for (int i = 0; i < SEAL_BYTES; i++) {
            if (cookieBytes[BODY_BYTES + i] != mac.bytes[i]) {
                return false;
            }
        }
        return true;
    }

    // A seed told twice gives the same ids again, so two sessions may fit: the least number is taken.
    private int numberOf(int owner, long id) {
        for (int i = 0; i < SESSIONS; i++) {
            if (sessions[i].open && sessions[i].owner == owner && sessions[i].id == id) {
                return i;
            }
        }
        return NONE;
    }

    private void tally(int answer) {
        if (answer >= 0) {
            letIn++;
        } else {
            refused++;
        }
    }

    private void writeTexts(Session borne) {
        Key key = keys.newest();
        cookieBytes[0] = key.number;
        cookieBytes[1] = borne.owner;
        writeLong(borne.id, cookieBytes, 2);
        mac.compute(key.bytes, cookieBytes, BODY_BYTES);
        System.arraycopy(mac.bytes, 0, cookieBytes, BODY_BYTES, SEAL_BYTES);
        Coder.encode(cookieBytes, COOKIE_BYTES, cookie);
        writeToken(key, token);
    }

    /** Writes the token that belongs to the body in cookieBytes. */
    private void writeToken(Key key, Text to) {
        markedBody[0] = TOKEN_MARK;
        System.arraycopy(cookieBytes, 0, markedBody, 1, BODY_BYTES);
        mac.compute(key.bytes, markedBody, BODY_BYTES + 1);
        Coder.encode(mac.bytes, TOKEN_BYTES, to);
    }

    private static int byteOf(int packed, int k) {
        return (packed >>> (24 - 8 * k)) & 255;
    }

    private static int signsIn(int packed) {
        int signs = 0;
        for (int k = 0; k < 4; k++) {
            if (byteOf(packed, k) != 0) {
                signs++;
            }
        }
        return signs;
    }

    private static void writeLong(long value, int[] bytes, int from) {
        for (int k = 0; k < 8; k++) {
            bytes[from + k] = (int) (value >>> (56 - 8 * k)) & 255;
        }
    }

    private static long readLong(int[] bytes, int from) {
        long value = 0;
        for (int k = 0; k < 8; k++) {
            value = (value << 8) | bytes[from + k];
        }
        return value;
    }

    private static final class User {
        private boolean told = false;
        private int first = 0;
        private int second = 0;

        void tell(int a, int b) {
            told = true;
            first = a;
            second = b;
        }

        boolean knows(int a, int b) {
            return told && first == a && second == b;
        }
    }

    private static final class Session {
        private boolean open = false;
        private int owner = 0;
        private long id = 0;
        private long began = 0;
        private long last = 0;

        void begin(int newOwner, long newId, long time) {
            open = true;
            owner = newOwner;
            id = newId;
            began = time;
            last = time;
        }
    }

    private static final class Text {
        private final int[] signs = new int[TEXT_SIGNS];
        private int length = 0;

        boolean has(int k) {
            return k >= 0 && k < length;
        }

        void addSign(int sign) {
            if (length < TEXT_SIGNS) {
                signs[length] = sign;
                length++;
            }
        }

        void addSigns(int packed) {
            for (int k = 0; k < 4; k++) {
                int sign = byteOf(packed, k);
                if (sign != 0) {
                    addSign(sign);
                }
            }
        }

        boolean isSameAs(Text other) {
            if (length != other.length) {
                return false;
            }
            for (int i = 0; i < length; i++) {
                if (signs[i] != other.signs[i]) {
                    return false;
                }
            }
            return true;
        }
    }

    private static final class Key {
        private static final int BYTES = 16;

        private final int[] bytes = new int[BYTES];
        private int number = 0;
        private long replacedAt = 0;

        void fill(int a, int b, int c, int d) {
            for (int k = 0; k < 4; k++) {
                bytes[k] = byteOf(a, k);
                bytes[4 + k] = byteOf(b, k);
                bytes[8 + k] = byteOf(c, k);
                bytes[12 + k] = byteOf(d, k);
            }
        }
    }

    /** The newest four keys; a new one takes the place of the oldest. */
    private static final class KeyRing {
        private static final int PLACES = 4;

        private final Key[] places = new Key[PLACES];
        private int kept = 1;
        private int newestPlace = 0;

        KeyRing() {
            for (int i = 0; i < PLACES; i++) {
                places[i] = new Key();
            }
        }

        Key newest() {
            return places[newestPlace];
        }

        void advance(long now) {
            Key replaced = places[newestPlace];
            replaced.replacedAt = now;
            newestPlace = (newestPlace + 1) % PLACES;
            places[newestPlace].number = (replaced.number + 1) & 255;
            if (kept < PLACES) {
                kept++;
            }
        }

        // The places are filled in order, so those below kept hold keys.
        private boolean isLive(int place, long now, long grace) {
            if (place >= kept) {
                return false;
            }
            return place == newestPlace || now - places[place].replacedAt < grace;
        }

        Key liveKey(int number, long now, long grace) {
            for (int i = 0; i < PLACES; i++) {
                if (isLive(i, now, grace) && places[i].number == number) {
                    return places[i];
                }
            }
            return null;
        }

        int liveOnes(long now, long grace) {
            int live = 0;
            for (int i = 0; i < PLACES; i++) {
                if (isLive(i, now, grace)) {
                    live++;
                }
            }
            return live;
        }
    }

    private static final class Coder {
        private static final String ALPHABET =
                "ABCDEFGHIJKLMNOPQRSTUVWXYZabcdefghijklmnopqrstuvwxyz0123456789-_";

        static void encode(int[] bytes, int length, Text to) {
            int signs = (8 * length + 5) / 6;
            to.length = 0;
            for (int i = 0; i < signs; i++) {
                int bit = 6 * i;
                int at = bit / 8;
                int next = at + 1 < length ? bytes[at + 1] : 0;
                int pair = (bytes[at] << 8) | next;
                to.addSign(ALPHABET.charAt((pair >>> (10 - bit % 8)) & 63));
            }
        }

        static boolean decodeCookie(Text from, int[] bytes) {
            if (!isCookieForm(from)) {
                return false;
            }
            for (int i = 0; i < COOKIE_BYTES; i++) {
                int bit = 8 * i;
                int at = bit / 6;
                int pair = (sixBits(from.signs[at]) << 6) | sixBits(from.signs[at + 1]);
                bytes[i] = (pair >>> (4 - bit % 6)) & 255;
            }
            return true;
        }

        private static boolean isCookieForm(Text from) {
            if (from.length != COOKIE_SIGNS) {
                return false;
            }
            for (int i = 0; i < COOKIE_SIGNS; i++) {
                if (sixBits(from.signs[i]) < 0) {
                    return false;
                }
            }
            // 30 signs hold four bits more than 22 bytes: those are filled up with 0.
            return (sixBits(from.signs[COOKIE_SIGNS - 1]) & 15) == 0;
        }

        private static int sixBits(int sign) {
            return ALPHABET.indexOf((char) sign);
        }
    }

    /**
     * HMAC with SHA-256. A key has at most 64 bytes and a message at most 40 here, so what is hashed
     * is always a padded key and 0 to 40 bytes: just two blocks, the filling included.
     */
    private static final class Mac {
        private static final int BYTES = 32;
        private static final int BLOCK = 64;
        private static final int INNER = 0x36;
        private static final int OUTER = 0x5c;
        private static final int[] START = {
            0x6a09e667, 0xbb67ae85, 0x3c6ef372, 0xa54ff53a,
            0x510e527f, 0x9b05688c, 0x1f83d9ab, 0x5be0cd19
        };
        private static final int[] ROUNDS = {
            0x428a2f98, 0x71374491, 0xb5c0fbcf, 0xe9b5dba5, 0x3956c25b, 0x59f111f1, 0x923f82a4, 0xab1c5ed5,
            0xd807aa98, 0x12835b01, 0x243185be, 0x550c7dc3, 0x72be5d74, 0x80deb1fe, 0x9bdc06a7, 0xc19bf174,
            0xe49b69c1, 0xefbe4786, 0x0fc19dc6, 0x240ca1cc, 0x2de92c6f, 0x4a7484aa, 0x5cb0a9dc, 0x76f988da,
            0x983e5152, 0xa831c66d, 0xb00327c8, 0xbf597fc7, 0xc6e00bf3, 0xd5a79147, 0x06ca6351, 0x14292967,
            0x27b70a85, 0x2e1b2138, 0x4d2c6dfc, 0x53380d13, 0x650a7354, 0x766a0abb, 0x81c2c92e, 0x92722c85,
            0xa2bfe8a1, 0xa81a664b, 0xc24b8b70, 0xc76c51a3, 0xd192e819, 0xd6990624, 0xf40e3585, 0x106aa070,
            0x19a4c116, 0x1e376c08, 0x2748774c, 0x34b0bcb5, 0x391c0cb3, 0x4ed8aa4a, 0x5b9cca4f, 0x682e6ff3,
            0x748f82ee, 0x78a5636f, 0x84c87814, 0x8cc70208, 0x90befffa, 0xa4506ceb, 0xbef9a3f7, 0xc67178f2
        };

        private final int[] bytes = new int[BYTES];
        private final int[] blocks = new int[2 * BLOCK];
        private final int[] schedule = new int[BLOCK];
        private final int[] state = new int[8];

        /** Leaves the MAC of the message's first length bytes in bytes. */
        void compute(int[] key, int[] message, int length) {
            fillBlocks(key, INNER, message, length);
            hashBlocks();
            fillBlocks(key, OUTER, bytes, BYTES);
            hashBlocks();
        }

        private void fillBlocks(int[] key, int pad, int[] message, int length) {
            for (int i = 0; i < BLOCK; i++) {
                blocks[i] = (i < key.length ? key[i] : 0) ^ pad;
            }
            for (int i = 0; i < BLOCK; i++) {
                blocks[BLOCK + i] = i < length ? message[i] : 0;
            }
            blocks[BLOCK + length] = 0x80;
            int bits = 8 * (BLOCK + length);
            blocks[2 * BLOCK - 2] = bits >>> 8;
            blocks[2 * BLOCK - 1] = bits & 255;
        }

        private void hashBlocks() {
            System.arraycopy(START, 0, state, 0, state.length);
            fillSchedule(0);
            mixSchedule();
            fillSchedule(BLOCK);
            mixSchedule();
            for (int i = 0; i < BYTES; i++) {
                bytes[i] = byteOf(state[i / 4], i % 4);
            }
        }

        private void fillSchedule(int from) {
            for (int t = 0; t < 16; t++) {
                int at = from + 4 * t;
                schedule[t] = (blocks[at] << 24) | (blocks[at + 1] << 16)
                        | (blocks[at + 2] << 8) | blocks[at + 3];
            }
            for (int t = 16; t < BLOCK; t++) {
                int near = schedule[t - 2];
                int far = schedule[t - 15];
                int nearMix = turn(near, 17) ^ turn(near, 19) ^ (near >>> 10);
                int farMix = turn(far, 7) ^ turn(far, 18) ^ (far >>> 3);
                schedule[t] = nearMix + schedule[t - 7] + farMix + schedule[t - 16];
            }
        }

        private void mixSchedule() {
            int a = state[0];
            int b = state[1];
            int c = state[2];
            int d = state[3];
            int e = state[4];
            int f = state[5];
            int g = state[6];
            int h = state[7];
            for (int t = 0; t < BLOCK; t++) {
                int choice = (e & f) ^ (~e & g);
                int majority = (a & b) ^ (a & c) ^ (b & c);
                int lower = h + (turn(e, 6) ^ turn(e, 11) ^ turn(e, 25)) + choice + ROUNDS[t] + schedule[t];
                int upper = (turn(a, 2) ^ turn(a, 13) ^ turn(a, 22)) + majority;
                h = g;
                g = f;
                f = e;
                e = d + lower;
                d = c;
                c = b;
                b = a;
                a = lower + upper;
            }
            state[0] += a;
            state[1] += b;
            state[2] += c;
            state[3] += d;
            state[4] += e;
            state[5] += f;
            state[6] += g;
            state[7] += h;
        }

        private static int turn(int word, int by) {
            return (word >>> by) | (word << (32 - by));
        }
    }
}
