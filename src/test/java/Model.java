import java.util.ArrayList;
import java.util.List;
import java.util.TreeMap;

/** A second gate, plain and wasteful, that ModelTest holds against the program. */
final class Model {
    private record Key(int number, byte[] bytes, long replacedAt) {
    }

    private record Session(int user, long id, long began, long last) {
    }

    private final List<Key> keys = new ArrayList<>(List.of(new Key(0, Reference.ZERO_KEY, Long.MAX_VALUE)));
    private final TreeMap<Integer, Session> sessions = new TreeMap<>();
    private final TreeMap<Integer, List<Integer>> passwords = new TreeMap<>();
    private final String[] texts = {"", ""};
    private long now;
    private long seed;
    private long grace = 1_000_000;
    private long most = 1_000_000;
    private long rest = 1_000_000;
    private int before;
    private int letIn;
    private int refused;
    private int renewed;

    private static void demand(boolean holds) {
        if (!holds) {
            throw new IllegalArgumentException();
        }
    }

    private static void demandWithin(long number, long least, long largest) {
        demand(number >= least && number <= largest);
    }

    long seed(long number) {
        seed = number;
        before = 0;
        return 0;
    }

    long pass(long time) {
        demandWithin(time, 1, 10_000_000_000L);
        now += time;
        return now;
    }

    long limits(long newGrace, long newMost, long newRest) {
        demandWithin(newGrace, 1, 1_000_000_000_000L);
        demandWithin(newMost, 1, 1_000_000_000_000L);
        demandWithin(newRest, 1, 1_000_000_000_000L);
        grace = newGrace;
        most = newMost;
        rest = newRest;
        return 0;
    }

    private Key newest() {
        return keys.get(keys.size() - 1);
    }

    long change(int a, int b, int c, int d) {
        Key replaced = keys.remove(keys.size() - 1);
        keys.add(new Key(replaced.number, replaced.bytes, now));
        keys.add(new Key((replaced.number + 1) % 256, Reference.key(a, b, c, d), Long.MAX_VALUE));
        if (keys.size() > 4) {
            keys.remove(0);
        }
        return newest().number;
    }

    private boolean live(Key key) {
        return key == newest() || now < key.replacedAt + grace;
    }

    long user(int user, int a, int b) {
        demandWithin(user, 0, 7);
        passwords.put(user, List.of(a, b));
        return 0;
    }

    private boolean old(Session session) {
        return now >= session.began + most;
    }

    private boolean idle(Session session) {
        return now >= session.last + rest;
    }

    long login(int user, int a, int b) {
        demandWithin(user, 0, 7);
        if (!List.of(a, b).equals(passwords.get(user))) {
            return SessionGate.BAD;
        }
        sessions.values().removeIf(session -> old(session) || idle(session));
        for (int number = 0; number < 8; number++) {
            if (!sessions.containsKey(number)) {
                Session begun = new Session(user, Reference.id(seed, before), now, now);
                before++;
                sessions.put(number, begun);
                bear(begun);
                return number;
            }
        }
        return SessionGate.FULL;
    }

    private void bear(Session session) {
        Key key = newest();
        texts[0] = Reference.cookie(key.number, key.bytes, session.user, session.id);
        texts[1] = Reference.token(key.number, key.bytes, session.user, session.id);
    }

    private Key liveKey(int number) {
        for (Key key : keys) {
            if (live(key) && key.number == number) {
                return key;
            }
        }
        return null;
    }

    private int judge(boolean changes) {
        byte[] bytes = Reference.cookieBytes(texts[0]);
        if (bytes == null) {
            return SessionGate.FORM;
        }
        Key key = liveKey(bytes[0] & 255);
        if (key == null) {
            return SessionGate.KEY;
        }
        int user = bytes[1] & 255;
        long id = java.nio.ByteBuffer.wrap(bytes).getLong(2);
        if (!texts[0].equals(Reference.cookie(key.number, key.bytes, user, id))) {
            return SessionGate.SEAL;
        }
        for (int number : sessions.keySet()) {
            Session session = sessions.get(number);
            if (session.id == id && session.user == user) {
                boolean wrong = changes && !texts[1].equals(Reference.token(key.number, key.bytes, user, id));
                int fault = old(session) ? SessionGate.OLD : idle(session) ? SessionGate.IDLE : number;
                if (fault < 0) {
                    sessions.remove(number);
                }
                return fault < 0 || !wrong ? fault : SessionGate.WRONG;
            }
        }
        return SessionGate.GONE;
    }

    private int judgeAndCount(boolean changes) {
        int answer = judge(changes);
        letIn += answer >= 0 ? 1 : 0;
        refused += answer < 0 ? 1 : 0;
        return answer;
    }

    long request(boolean changes) {
        int answer = judgeAndCount(changes);
        if (answer >= 0) {
            Session was = sessions.get(answer);
            sessions.put(answer, new Session(was.user, was.id, was.began, now));
            if ((Reference.cookieBytes(texts[0])[0] & 255) != newest().number) {
                bear(was);
                renewed++;
            }
        }
        return answer;
    }

    long logout() {
        int answer = judgeAndCount(true);
        if (answer >= 0) {
            sessions.remove(answer);
        }
        return answer;
    }

    long revoke(int user) {
        demandWithin(user, 0, 7);
        int had = sessions.size();
        sessions.values().removeIf(session -> session.user == user);
        return had - sessions.size();
    }

    long type(int which, int a, int b, int c, int d) {
        demandWithin(which, 0, 1);
        StringBuilder text = new StringBuilder(texts[which]);
        for (byte sign : Reference.key(a, b, c, d)) {
            if (sign != 0) {
                text.append((char) (sign & 255));
            }
        }
        if (text.length() > 40) {
            throw new IllegalStateException();
        }
        texts[which] = text.toString();
        return text.length();
    }

    long erase(int which) {
        demandWithin(which, 0, 1);
        int had = texts[which].length();
        texts[which] = "";
        return had;
    }

    long put(int which, int k, int to) {
        demandWithin(which, 0, 1);
        demandWithin(to, 1, 255);
        StringBuilder text = new StringBuilder(texts[which]);
        if (k < 0 || k >= text.length()) {
            throw new IndexOutOfBoundsException();
        }
        char was = text.charAt(k);
        text.setCharAt(k, (char) to);
        texts[which] = text.toString();
        return was;
    }

    long sign(int which, int k) {
        demandWithin(which, 0, 1);
        return k >= 0 && k < texts[which].length() ? texts[which].charAt(k) : SessionGate.NONE;
    }

    long session(int number, int what) {
        demandWithin(number, 0, 7);
        demandWithin(what, 0, 3);
        Session asked = sessions.get(number);
        if (asked == null) {
            return SessionGate.NONE;
        }
        return new long[] {asked.user, asked.id, asked.began, asked.last}[what];
    }

    long count(int what) {
        demandWithin(what, 0, 6);
        int live = (int) keys.stream().filter(this::live).count();
        return new int[] {sessions.size(), before, letIn, refused, renewed, live, newest().number}[what];
    }

    long octet(int k) {
        demandWithin(k, 0, 31);
        return Reference.mac(newest().bytes, Reference.latin(texts[0]))[k] & 255;
    }

    String text(int which) {
        return texts[which];
    }
}
