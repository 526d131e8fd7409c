import java.util.ArrayDeque;
import java.util.ArrayList;
import java.util.Arrays;
import java.util.List;
import java.util.NoSuchElementException;
import javax.crypto.Cipher;
import javax.crypto.spec.SecretKeySpec;

/**
 * The document once more, written apart from the program and with the Java library's AES, lists and
 * arrays: tests compare the program's answers with those of this one.
 */
final class Oracle {
    static final int NONE = -1;

    static final class Note {
        final int kind;
        final int[] numbers;
        final int[] bytes;

        Note(int kind, int a, int b, int c, int[] bytes) {
            this.kind = kind;
            numbers = new int[] {a, b, c};
            this.bytes = bytes.length > 40 ? Arrays.copyOf(bytes, 40) : bytes;
        }
    }

    static final class Attribute {
        int type;
        int rights;
        int[] bytes;
    }

    static final class Packet {
        int channel;
        int[] bytes;
        boolean lost;
        int from;
        int init;
    }

    /** All of parts 4 to 8 that ends with a link, and the link's own figures. */
    static final class Session {
        long other;
        int[] access;
        int init;
        int interval;
        int timeout;
        int hop;
        long map;
        Long waitingMap;
        int instant;
        int anchor;
        int event;
        int u;
        int channel = NONE;
        int heardAt;
        boolean good;
        int sn;
        int nesn;
        Integer reason;
        Integer reasonLater;
        boolean current;
        int sort;
        int op;
        int[] pdu = {};
        final ArrayDeque<int[]> controls = new ArrayDeque<>();
        final ArrayDeque<int[]> messages = new ArrayDeque<>();
        int taken;
        boolean version;
        int[] gathering;
        boolean asked;
        boolean held;
        boolean secure;
        boolean sending;
        boolean comes;
        long sentSealed;
        long openedSealed;
        int[] ownSkd;
        int[] ownIv;
        int[] session;
        int[] iv;
        int mtu = 23;
        int step;
        int tk;
        int[] one;
        int[] two;
        int[] random;
        int[] confirm;
        final List<int[]> parts = new ArrayList<>();
        boolean waits30;
        int job = NONE;
        int a;
        int b;
        int[] jobBytes = {};
        int jobDone;
        int jobOp;
    }

    static final class Dev {
        int id;
        long address;
        int state;
        int x;
        int advInterval;
        int next;
        int[] data = {};
        long wanted;
        int[] wish;
        long wishMap;
        int reports;
        long reportAddress;
        int[] reportData = {};
        long features;
        int passkey = NONE;
        int[] key;
        int ownMtu = 23;
        int lose;
        final List<Integer> noise = new ArrayList<>();
        final List<Attribute> attributes = new ArrayList<>();
        final ArrayDeque<Note> notes = new ArrayDeque<>();
        int notesLost;
        Session s = new Session();

        boolean linked() {
            return state == 4 || state == 5;
        }

        int draw() {
            x = x * 1103515245 + 12345;
            return (x >>> 16) & 0xFF;
        }

        int[] draws(int n) {
            int[] r = new int[n];
            for (int i = 0; i < n; i++) {
                r[i] = draw();
            }
            return r;
        }

        void note(int kind, int a, int b, int c, int... bytes) {
            if (notes.size() == 32) {
                notesLost++;
            } else {
                notes.add(new Note(kind, a, b, c, bytes));
            }
        }
    }

    final Dev[] dev = {new Dev(), new Dev()};
    int[] tape = {};
    int time;
    final List<Packet> sky = new ArrayList<>();

    Oracle(long first, long second) {
        dev[0].address = first & ((1L << 48) - 1);
        dev[1].address = second & ((1L << 48) - 1);
        dev[1].x = 1;
        dev[1].id = 1;
    }

    // ---- rows of bytes ----

    static int[] row(Object... parts) {
        List<Integer> all = new ArrayList<>();
        for (Object p : parts) {
            if (p instanceof Integer) {
                all.add((Integer) p & 255);
            } else {
                for (int b : (int[]) p) {
                    all.add(b);
                }
            }
        }
        int[] r = new int[all.size()];
        for (int i = 0; i < r.length; i++) {
            r[i] = all.get(i);
        }
        return r;
    }

    static int[] le(long v, int n) {
        int[] r = new int[n];
        for (int i = 0; i < n; i++) {
            r[i] = (int) ((v >> (8 * i)) & 255);
        }
        return r;
    }

    static long num(int[] r, int from, int n) {
        long v = 0;
        for (int i = n - 1; i >= 0; i--) {
            v = v * 256 + r[from + i];
        }
        return v;
    }

    static int n2(int[] r, int from) {
        return (int) num(r, from, 2);
    }

    static int[] sub(int[] r, int from, int to) {
        return Arrays.copyOfRange(r, Math.min(from, r.length), Math.max(Math.min(to, r.length), Math.min(from, r.length)));
    }

    static int[] xor(int[] a, int[] b) {
        int[] r = new int[16];
        for (int i = 0; i < 16; i++) {
            r[i] = (i < a.length ? a[i] : 0) ^ (i < b.length ? b[i] : 0);
        }
        return r;
    }

    static int[] e(int[] key, int[] block) {
        try {
            byte[] k = new byte[16];
            byte[] t = new byte[16];
            for (int i = 0; i < 16; i++) {
                k[i] = (byte) key[i];
                t[i] = (byte) block[i];
            }
            Cipher c = Cipher.getInstance("AES/ECB/NoPadding");
            c.init(Cipher.ENCRYPT_MODE, new SecretKeySpec(k, "AES"));
            byte[] o = c.doFinal(t);
            int[] r = new int[16];
            for (int i = 0; i < 16; i++) {
                r[i] = o[i] & 255;
            }
            return r;
        } catch (java.security.GeneralSecurityException x) {
            throw new IllegalStateException(x);
        }
    }

    // ---- parts 1 and 2 ----

    static int[] bits(int[] bytes) {
        int[] r = new int[8 * bytes.length];
        for (int i = 0; i < r.length; i++) {
            r[i] = (bytes[i / 8] >> (i % 8)) & 1;
        }
        return r;
    }

    static int[] bytes(int[] bits) {
        int[] r = new int[bits.length / 8];
        for (int i = 0; i < bits.length; i++) {
            r[i / 8] |= bits[i] << (i % 8);
        }
        return r;
    }

    static int[] crc(int[] headerAndPayload, int init) {
        int c = init;
        for (int b : bits(headerAndPayload)) {
            int had = (c >> 23) & 1;
            c = (2 * c) % (1 << 24);
            if (b != had) {
                c ^= 0x65B;
            }
        }
        int[] out = new int[24];
        for (int i = 0; i < 24; i++) {
            out[i] = (c >> (23 - i)) & 1;
        }
        return bytes(out);
    }

    static int[] whiten(int[] behindAccess, int channel) {
        int[] b = bits(behindAccess);
        int r = 64 + channel;
        for (int i = 0; i < b.length; i++) {
            int low = r % 2;
            b[i] ^= low;
            r = r / 2;
            if (low == 1) {
                r ^= 68;
            }
        }
        return bytes(b);
    }

    static int[] nonce(long n, int d, int[] iv) {
        int[] five = le(n, 5);
        five[4] += 128 * d;
        return row(five, iv);
    }

    static int[] mic(int[] key, int[] nonce, int first, int[] p) {
        int[] x = e(key, row(73, nonce, 0, p.length));
        x = e(key, xor(x, new int[] {0, 1, first & 227}));
        for (int i = 0; i < p.length; i += 16) {
            x = e(key, xor(x, sub(p, i, i + 16)));
        }
        return sub(xor(x, e(key, row(1, nonce, 0, 0))), 0, 4);
    }

    static int[] stream(int[] key, int[] nonce, int[] p) {
        int[] out = p.clone();
        for (int i = 0; i < p.length; i++) {
            out[i] ^= e(key, row(1, nonce, 0, 1 + i / 16))[i % 16];
        }
        return out;
    }

    // ---- sending and hearing ----

    void transmit(Dev d, int channel, int[] access, int init, int first, int[] payload) {
        int[] hp = row(first, payload.length, payload);
        int[] all = row(access, whiten(row(hp, crc(hp, init)), channel));
        for (int bit : d.noise) {
            if (bit / 8 < all.length) {
                all[bit / 8] ^= 1 << (bit % 8);
            }
        }
        d.noise.clear();
        Packet p = new Packet();
        p.channel = channel;
        p.bytes = all;
        p.from = d.id;
        p.init = init;
        p.lost = d.lose > 0;
        if (p.lost) {
            d.lose--;
        }
        sky.add(p);
    }

    boolean heard(int channel, int[] access) {
        Packet p = sky.get(sky.size() - 1);
        return !p.lost && p.channel == channel && Arrays.equals(sub(p.bytes, 0, 4), access);
    }

    /** HEADER and PAYLOAD of the latest packet, if it is GOOD; else null. */
    int[] good(int channel, int[] access, int init) {
        if (!heard(channel, access)) {
            return null;
        }
        int[] all = sky.get(sky.size() - 1).bytes;
        int[] plain = whiten(sub(all, 4, all.length), channel);
        int[] hp = sub(plain, 0, plain.length - 3);
        boolean right = Arrays.equals(crc(hp, init), sub(plain, plain.length - 3, plain.length));
        return right && hp[1] == hp.length - 2 ? hp : null;
    }

    static final int[] ADV = {0xD6, 0xBE, 0x89, 0x8E};

    // ---- part 3 ----

    static boolean mapOk(long m) {
        return Long.bitCount(m) >= 2 && (m & ~((1L << 37) - 1)) == 0;
    }

    static boolean linkOk(int interval, int timeout, int hop, long m) {
        return interval >= 2 && interval <= 50 && timeout >= 10 && timeout <= 2000 && hop >= 5 && hop <= 16 && mapOk(m);
    }

    void step() {
        sky.clear();
        for (Dev d : dev) {
            if (d.state == 1 && d.next == time) {
                d.next = time + d.advInterval + (d.draw() & 3);
                for (int c = 37; c <= 39; c++) {
                    if (d.state == 1) {
                        advertiseOn(d, dev[1 - d.id], c);
                    }
                }
            }
        }
        List<Dev> due = new ArrayList<>();
        for (Dev d : dev) {
            if (d.linked() && d.s.anchor == time) {
                due.add(d);
            }
        }
        for (Dev d : due) {
            hop(d.s);
        }
        for (Dev d : due) {
            if (d.state == 4) {
                event(d, dev[1 - d.id], due.contains(dev[1 - d.id]));
            }
        }
        for (Dev d : due) {
            d.s.event = (d.s.event + 1) % 65536;
            d.s.anchor += d.s.interval;
        }
        for (Dev d : dev) {
            if (d.linked()) {
                Integer r = d.s.reason;
                int silent = time - d.s.heardAt;
                if (r == null && !d.s.good && silent >= 6 * d.s.interval) {
                    r = 62;
                }
                if (r == null && d.s.good && silent >= d.s.timeout) {
                    r = 8;
                }
                if (r != null) {
                    d.state = 0;
                    d.s = new Session();
                    d.note(7, r, 0, 0);
                }
            }
        }
        time++;
    }

    void advertiseOn(Dev d, Dev other, int c) {
        transmit(d, c, ADV, 0x555555, 0, row(le(d.address, 6), d.data));
        if ((other.state != 2 && other.state != 3) || c != 37 + time % 3) {
            return;
        }
        int[] hp = good(c, ADV, 0x555555);
        if (hp == null || hp[0] != 0 || hp.length < 8) {
            return;
        }
        long from = num(hp, 2, 6);
        if (other.state == 2) {
            other.reports++;
            other.reportAddress = from;
            other.reportData = sub(hp, 8, hp.length);
        } else if (from == other.wanted) {
            Session s = new Session();
            other.s = s;
            other.state = 4;
            s.other = from;
            s.access = other.draws(4);
            int[] init = other.draws(3);
            s.init = (int) num(init, 0, 3);
            s.interval = other.wish[0];
            s.timeout = other.wish[1];
            s.hop = other.wish[2];
            s.map = other.wishMap;
            s.anchor = time + s.interval;
            s.heardAt = time;
            other.note(0, 4, 0, 0);
            transmit(other, c, ADV, 0x555555, 5, row(le(other.address, 6), le(from, 6), s.access, init,
                    le(s.interval, 2), le(s.timeout, 2), le(s.map, 5), s.hop));
            becomePeripheral(d, good(c, ADV, 0x555555));
        }
    }

    void becomePeripheral(Dev d, int[] hp) {
        if (hp == null || hp[0] != 5 || hp.length != 31 || num(hp, 8, 6) != d.address
                || !linkOk(n2(hp, 21), n2(hp, 23), hp[30], num(hp, 25, 5))) {
            return;
        }
        Session s = new Session();
        d.s = s;
        d.state = 5;
        s.other = num(hp, 2, 6);
        s.access = sub(hp, 14, 18);
        s.init = (int) num(hp, 18, 3);
        s.interval = n2(hp, 21);
        s.timeout = n2(hp, 23);
        s.map = num(hp, 25, 5);
        s.hop = hp[30];
        s.anchor = time + s.interval;
        s.heardAt = time;
        d.note(0, 5, 0, 0);
    }

    static void hop(Session s) {
        if (s.waitingMap != null && s.event == s.instant) {
            s.map = s.waitingMap;
            s.waitingMap = null;
        }
        s.u = (s.u + s.hop) % 37;
        List<Integer> used = new ArrayList<>();
        for (int c = 0; c < 37; c++) {
            if ((s.map >> c & 1) == 1) {
                used.add(c);
            }
        }
        s.channel = used.contains(s.u) ? s.u : used.get(s.u % used.size());
    }

    void event(Dev c, Dev p, boolean peripheralDue) {
        speak(c);
        if (p.state != 5 || !peripheralDue || !heard(p.s.channel, p.s.access)) {
            return;
        }
        int[] hp = good(p.s.channel, p.s.access, p.s.init);
        if (hp != null) {
            hear(p, hp);
        }
        speak(p);
        hp = good(c.s.channel, c.s.access, c.s.init);
        if (hp != null) {
            hear(c, hp);
        }
    }

    // ---- part 4 ----

    static void reason(Session s, int r) {
        if (s.reason == null) {
            s.reason = r;
        }
    }

    void speak(Dev d) {
        Session s = d.s;
        if (s.reasonLater != null) {
            reason(s, s.reasonLater);
        }
        if (!s.current) {
            s.current = true;
            s.op = 0;
            if (!s.controls.isEmpty()) {
                s.sort = 3;
                s.pdu = s.controls.remove();
                s.op = s.pdu[0];
            } else if (!s.held && !s.messages.isEmpty()) {
                int[] m = s.messages.peek();
                s.sort = s.taken == 0 ? 2 : 1;
                s.pdu = sub(m, s.taken, s.taken + 27);
                s.taken += s.pdu.length;
                if (s.taken == m.length) {
                    s.messages.remove();
                    s.taken = 0;
                }
            } else {
                s.sort = 1;
                s.pdu = new int[0];
            }
            if (s.sending && s.pdu.length > 0) {
                int[] nonce = nonce(s.sentSealed++, d.state == 4 ? 1 : 0, s.iv);
                s.pdu = row(stream(s.session, nonce, s.pdu), mic(s.session, nonce, s.sort, s.pdu));
            }
        }
        transmit(d, s.channel, s.access, s.init, s.sort + 4 * s.nesn + 8 * s.sn, s.pdu);
    }

    void hear(Dev d, int[] hp) {
        Session s = d.s;
        s.heardAt = time;
        s.good = true;
        if (s.current && (hp[0] >> 2 & 1) != s.sn) {
            s.sn = 1 - s.sn;
            s.current = false;
            if (s.op == 2) {
                reason(s, 22);
            }
            if (s.op == 5) {
                s.comes = true;
                s.openedSealed = 0;
            }
        }
        if ((hp[0] >> 3 & 1) != s.nesn) {
            return;
        }
        s.nesn = 1 - s.nesn;
        int[] p = sub(hp, 2, hp.length);
        if (p.length == 0) {
            return;
        }
        if (s.comes) {
            if (p.length < 5) {
                reason(s, 61);
                return;
            }
            int[] nonce = nonce(s.openedSealed++, d.state == 4 ? 0 : 1, s.iv);
            int[] open = stream(s.session, nonce, sub(p, 0, p.length - 4));
            if (!Arrays.equals(mic(s.session, nonce, hp[0], open), sub(p, p.length - 4, p.length))) {
                reason(s, 61);
                return;
            }
            p = open;
        }
        int sort = hp[0] & 3;
        if (sort == 3) {
            control(d, s, p);
        } else if (sort != 0) {
            piece(d, s, sort, p);
        }
    }

    static final int[] CONTROL_BYTES = {-1, 7, 1, 12, 12, 0, 0, 1, 8, 8, -1, -1, 5, 1};

    void control(Dev d, Session s, int[] p) {
        int op = p[0];
        if (s.controls.size() > 4) {
            return;
        }
        if (s.held && !(op >= 2 && op <= 6 || op == 13)) {
            return;
        }
        boolean bad = op > 13 || CONTROL_BYTES[op] != p.length - 1;
        bad |= d.state == 4 && (op == 1 || op == 3);
        bad |= d.state == 5 && (op == 4 || op == 5 || op == 13);
        if (bad) {
            if (op != 7) {
                s.controls.add(row(7, op));
            }
            return;
        }
        if (s.secure && op >= 3 && op <= 6) {
            return;
        }
        if (op == 1) {
            int ahead = Math.floorMod(n2(p, 6) - s.event, 65536);
            if (ahead == 0 || ahead > 32767) {
                reason(s, 40);
            } else {
                long m = num(p, 1, 5);
                s.waitingMap = mapOk(m) ? m : null;
                s.instant = n2(p, 6);
            }
        } else if (op == 2 && s.reasonLater == null) {
            s.reasonLater = p[1];
        } else if (op == 3) {
            if (d.key == null) {
                s.controls.add(row(13, 6));
            } else {
                s.held = true;
                int[] skd = d.draws(8);
                int[] iv = d.draws(4);
                s.controls.add(row(4, skd, iv));
                s.controls.add(row(5));
                s.session = e(d.key, row(sub(p, 1, 9), skd));
                s.iv = row(sub(p, 9, 13), iv);
            }
        } else if (op == 4 && s.asked) {
            s.session = e(d.key, row(s.ownSkd, sub(p, 1, 9)));
            s.iv = row(s.ownIv, sub(p, 9, 13));
        } else if (op == 5 && s.session != null) {
            s.sending = true;
            s.comes = true;
            s.sentSealed = 0;
            s.openedSealed = 0;
            s.controls.add(row(6));
        } else if (op == 6 && s.comes) {
            if (d.state == 5) {
                s.sending = true;
                s.sentSealed = 0;
                s.controls.add(row(6));
            }
            s.secure = true;
            s.held = false;
            d.note(12, 0, 0, 0);
        } else if (op == 7) {
            d.note(19, p[1], 0, 0);
        } else if (op == 8) {
            s.controls.add(row(9, le(d.features, 8)));
        } else if (op == 9) {
            d.note(15, 0, 0, 0, sub(p, 1, 9));
        } else if (op == 12) {
            d.note(14, p[1], n2(p, 2), n2(p, 4));
            if (!s.version) {
                s.version = true;
                s.controls.add(row(12, 9, le(1, 2), le(258, 2)));
            }
        } else if (op == 13 && s.asked && !s.secure) {
            s.held = false;
            s.asked = false;
            d.note(13, p[1], 0, 0);
        }
    }

    // ---- part 5 ----

    static void post(Session s, int channel, int[] bytes) {
        s.messages.add(row(le(bytes.length, 2), le(channel, 2), bytes));
    }

    void piece(Dev d, Session s, int sort, int[] p) {
        if (sort == 2) {
            s.gathering = null;
            if (p.length < 4 || n2(p, 0) > 92) {
                return;
            }
            s.gathering = p;
        } else if (s.gathering == null) {
            return;
        } else {
            s.gathering = row(s.gathering, p);
        }
        int[] g = s.gathering;
        int told = n2(g, 0) + 4;
        if (g.length < told) {
            return;
        }
        s.gathering = null;
        if (g.length > told || s.messages.size() == 8 || g.length == 4) {
            return;
        }
        int[] m = sub(g, 4, g.length);
        if (n2(g, 2) == 6) {
            int[] out = pairing(d, s, m);
            if (out != null) {
                post(s, 6, out);
            }
        } else if (n2(g, 2) == 4) {
            int[] out = attributes(d, s, m);
            if (out != null) {
                post(s, 4, out);
            }
        }
    }

    // ---- part 6 ----

    int[] c(Dev d, Session s, int[] r) {
        int[] k = row(le(s.tk, 4), new int[12]);
        int[] mine = le(d.address, 6);
        int[] theirs = le(s.other, 6);
        int[] q = d.state == 4 ? row(mine, theirs) : row(theirs, mine);
        return e(k, xor(e(k, xor(r, row(0, 0, s.one, s.two))), q));
    }

    int[] pairing(Dev d, Session s, int[] m) {
        boolean central = d.state == 4;
        int n = m.length;
        if (m[0] == 1 && n == 7 && !central) {
            if (d.passkey == NONE) {
                d.note(11, 5, 0, 0);
                s.step = 0;
                return row(5, 5);
            }
            s.tk = d.passkey;
            s.one = m;
            s.two = row(2, 3, 0, 0, 16, 0, 0);
            s.step = 2;
            return s.two;
        }
        if (m[0] == 2 && n == 7 && central && s.step == 1) {
            s.two = m;
            s.random = d.draws(16);
            s.step = 2;
            return row(3, c(d, s, s.random));
        }
        if (m[0] == 3 && n == 17 && s.step == 2) {
            s.confirm = sub(m, 1, 17);
            s.step = 3;
            if (central) {
                return row(4, s.random);
            }
            s.random = d.draws(16);
            return row(3, c(d, s, s.random));
        }
        if (m[0] == 4 && n == 17 && s.step == 3) {
            int[] r = sub(m, 1, 17);
            s.step = 0;
            if (!Arrays.equals(c(d, s, r), s.confirm)) {
                d.note(11, 4, 0, 0);
                return row(5, 4);
            }
            int[] pr = central ? r : s.random;
            int[] cr = central ? s.random : r;
            d.key = e(row(le(s.tk, 4), new int[12]), row(sub(pr, 0, 8), sub(cr, 0, 8)));
            d.note(10, 0, 0, 0);
            return central ? null : row(4, s.random);
        }
        if (m[0] == 5 && n == 2 && s.step != 0) {
            s.step = 0;
            d.note(11, m[1], 0, 0);
        }
        return null;
    }

    // ---- part 7 ----

    static int[] error(int op, int handle, int code) {
        return row(1, op, le(handle, 2), code);
    }

    static boolean group(int type) {
        return type == 0x2800 || type == 0x2801;
    }

    static int endOf(Dev d, int handle) {
        int h = handle + 1;
        while (h <= d.attributes.size() && !group(d.attributes.get(h - 1).type)) {
            h++;
        }
        return h - 1;
    }

    int[] attributes(Dev d, Session s, int[] m) {
        int op = m[0];
        int n = m.length;
        if (op <= 25 && op % 2 == 1) {
            return job(d, s, m);
        }
        if (op == 30) {
            if (n == 1 && s.waits30) {
                s.waits30 = false;
                d.note(18, 0, 0, 0);
            }
            return null;
        }
        if (op == 27 || op == 29) {
            if (n < 3 || n > s.mtu) {
                return null;
            }
            d.note(op == 27 ? 16 : 17, n2(m, 1), 0, 0, sub(m, 3, n));
            return op == 29 ? row(30) : null;
        }
        if (op == 82) {
            if (n >= 3 && n <= s.mtu && handleError(d, s, m, false, true) == 0 && n - 3 <= 40) {
                d.attributes.get(n2(m, 1) - 1).bytes = sub(m, 3, n);
            }
            return null;
        }
        int exact = op == 2 || op == 10 ? 3 : op == 4 || op == 12 ? 5 : op == 8 || op == 16 ? 7 : op == 24 ? 2 : 0;
        int least = op == 6 ? 7 : op == 18 ? 3 : op == 22 ? 5 : 0;
        if (exact == 0 && least == 0) {
            return (op & 64) != 0 ? null : error(op, 0, 6);
        }
        if (exact != 0 && n != exact || n < least || n > s.mtu || op == 2 && n2(m, 1) < 23) {
            return error(op, 0, 4);
        }
        if (op == 2) {
            s.mtu = Math.max(23, Math.min(d.ownMtu, n2(m, 1)));
            return row(3, le(d.ownMtu, 2));
        }
        if (op == 24) {
            return execute(d, s, m[1]);
        }
        if (op == 4 || op == 6 || op == 8 || op == 16) {
            return search(d, s, m);
        }
        boolean reads = op == 10 || op == 12;
        int code = handleError(d, s, m, reads, !reads);
        if (code != 0) {
            return error(op, n2(m, 1), code);
        }
        Attribute at = d.attributes.get(n2(m, 1) - 1);
        if (reads) {
            int place = op == 10 ? 0 : n2(m, 3);
            if (place > at.bytes.length) {
                return error(op, n2(m, 1), 7);
            }
            return row(op + 1, sub(at.bytes, place, place + s.mtu - 1));
        }
        if (op == 18) {
            if (n - 3 > 40) {
                return error(op, n2(m, 1), 13);
            }
            at.bytes = sub(m, 3, n);
            return row(19);
        }
        if (s.parts.size() == 6) {
            return error(op, n2(m, 1), 9);
        }
        s.parts.add(sub(m, 1, n));
        return row(23, sub(m, 1, n));
    }

    static int handleError(Dev d, Session s, int[] m, boolean reads, boolean writes) {
        int h = n2(m, 1);
        if (h == 0 || h > d.attributes.size()) {
            return 1;
        }
        int rights = d.attributes.get(h - 1).rights;
        if (reads && rights % 2 == 0) {
            return 2;
        }
        if (writes && rights / 2 % 2 == 0) {
            return 3;
        }
        return rights >= 4 && !s.secure ? 5 : 0;
    }

    int[] execute(Dev d, Session s, int how) {
        List<int[]> parts = new ArrayList<>(s.parts);
        s.parts.clear();
        if (how == 0) {
            return row(25);
        }
        int[][] would = new int[d.attributes.size()][];
        for (int i = 0; i < would.length; i++) {
            would[i] = d.attributes.get(i).bytes;
        }
        for (int[] p : parts) {
            int h = n2(p, 0);
            int place = n2(p, 2);
            int[] old = would[h - 1];
            if (place > old.length) {
                return error(24, h, 7);
            }
            int[] made = row(sub(old, 0, place), sub(p, 4, p.length), sub(old, place + p.length - 4, old.length));
            if (made.length > 40) {
                return error(24, h, 13);
            }
            would[h - 1] = made;
        }
        for (int i = 0; i < would.length; i++) {
            d.attributes.get(i).bytes = would[i];
        }
        return row(25);
    }

    int[] search(Dev d, Session s, int[] m) {
        int op = m[0];
        int from = n2(m, 1);
        int to = n2(m, 3);
        if (from == 0 || from > to) {
            return error(op, from, 1);
        }
        int type = op == 4 ? 0 : n2(m, 5);
        if (op == 16 && !group(type)) {
            return error(op, from, 16);
        }
        List<int[]> rows = new ArrayList<>();
        for (int h = from; h <= to && h <= d.attributes.size(); h++) {
            Attribute at = d.attributes.get(h - 1);
            boolean open = at.rights < 4 || s.secure;
            boolean readable = at.rights % 2 == 1 && open;
            if (op == 4) {
                rows.add(row(le(h, 2), le(at.type, 2)));
            } else if (op == 6) {
                if (at.type == type && readable && Arrays.equals(at.bytes, sub(m, 7, m.length))) {
                    rows.add(row(le(h, 2), le(endOf(d, h), 2)));
                }
            } else if (at.type == type) {
                if (!readable) {
                    if (rows.isEmpty()) {
                        return error(op, h, at.rights % 2 == 0 ? 2 : 5);
                    }
                    break;
                }
                int[] r = op == 8 ? row(le(h, 2), sub(at.bytes, 0, s.mtu - 4))
                        : row(le(h, 2), le(endOf(d, h), 2), sub(at.bytes, 0, s.mtu - 6));
                if (!rows.isEmpty() && rows.get(0).length != r.length) {
                    break;
                }
                rows.add(r);
            }
        }
        if (rows.isEmpty()) {
            return error(op, from, 10);
        }
        int[] out = op == 4 ? row(5, 1) : op == 6 ? row(7) : row(op + 1, rows.get(0).length);
        for (int[] r : rows) {
            if (out.length + r.length > s.mtu) {
                break;
            }
            out = row(out, r);
        }
        return out;
    }

    // ---- part 8 ----

    int[] ask(Session s, int[] request) {
        s.jobOp = request[0];
        return request;
    }

    int[] range(Session s, int from) {
        switch (s.job) {
            case 1: return ask(s, row(16, le(from, 2), le(65535, 2), le(0x2800, 2)));
            case 2: return ask(s, row(8, le(from, 2), le(s.b, 2), le(0x2803, 2)));
            case 3: return ask(s, row(4, le(from, 2), le(s.b, 2)));
            default: return ask(s, row(6, le(from, 2), le(65535, 2), le(0x2800, 2), s.jobBytes));
        }
    }

    int[] firstRequest(Dev d, Session s) {
        switch (s.job) {
            case 0: return ask(s, row(2, le(d.ownMtu, 2)));
            case 2: case 3: return range(s, s.a);
            case 4: return ask(s, row(10, le(s.a, 2)));
            case 5: return s.jobBytes.length <= s.mtu - 3 ? ask(s, row(18, le(s.a, 2), s.jobBytes)) : prepare(s);
            default: return range(s, 1);
        }
    }

    int[] prepare(Session s) {
        if (s.jobDone == s.jobBytes.length) {
            return ask(s, row(24, 1));
        }
        int[] chunk = sub(s.jobBytes, s.jobDone, s.jobDone + s.mtu - 5);
        int[] request = ask(s, row(22, le(s.a, 2), le(s.jobDone, 2), chunk));
        s.jobDone += chunk.length;
        return request;
    }

    int[] done(Dev d, Session s) {
        d.note(8, s.job, 0, 0);
        s.job = NONE;
        return null;
    }

    int[] job(Dev d, Session s, int[] m) {
        int n = m.length;
        int op = m[0];
        if (s.job == NONE) {
            return null;
        }
        if (op == 1) {
            if (n != 5 || m[1] != s.jobOp) {
                return null;
            }
            if (m[4] == 10 && (s.job == 1 || s.job == 2 || s.job == 3 || s.job == 6)) {
                return done(d, s);
            }
            d.note(9, m[1], n2(m, 2), m[4]);
            s.job = NONE;
            return null;
        }
        if (op != s.jobOp + 1) {
            return null;
        }
        switch (op) {
            case 3:
                if (n != 3) {
                    return null;
                }
                s.mtu = Math.max(23, Math.min(d.ownMtu, n2(m, 1)));
                return done(d, s);
            case 11: case 13:
                s.jobBytes = sub(row(s.jobBytes, sub(m, 1, n)), 0, 40);
                if (n - 1 == s.mtu - 1) {
                    return ask(s, row(12, le(s.a, 2), le(s.jobBytes.length, 2)));
                }
                d.note(4, s.a, 0, 0, s.jobBytes);
                return done(d, s);
            case 19: case 25:
                if (n != 1) {
                    return null;
                }
                d.note(5, s.a, 0, 0);
                return done(d, s);
            case 23:
                return n < 5 ? null : prepare(s);
            default:
                return found(d, s, m);
        }
    }

    int[] found(Dev d, Session s, int[] m) {
        int op = m[0];
        int width = 4;
        int at = 1;
        if (op == 9 || op == 17) {
            width = m.length < 2 ? 0 : m[1];
            at = 2;
            if (width < (op == 9 ? 2 : 4)) {
                return null;
            }
        } else if (op == 5) {
            at = 2;
            if (m.length < 2 || m[1] != 1) {
                return null;
            }
        }
        if (m.length <= at || (m.length - at) % width != 0) {
            return null;
        }
        int last = 0;
        for (; at < m.length; at += width) {
            int h = n2(m, at);
            int[] rest = sub(m, at + (op == 9 ? 2 : 4), at + width);
            int second = op == 9 ? 0 : n2(m, at + 2);
            d.note(s.job, h, second, 0, rest);
            last = op == 17 || op == 7 ? second : h;
        }
        int to = op == 17 || op == 7 ? 65535 : s.b;
        return last + 1 <= to ? range(s, last + 1) : done(d, s);
    }

    // ---- the face ----

    boolean is(int device) {
        return device == 0 || device == 1;
    }

    int feed(int... words) {
        if (tape.length > 80) {
            return NONE;
        }
        for (int w : words) {
            tape = row(tape, w >> 24, w >> 16, w >> 8, w);
        }
        return tape.length;
    }

    int end(int n) {
        if (n < 0 || n > tape.length) {
            return NONE;
        }
        tape = sub(tape, 0, n);
        return n;
    }

    boolean seed(int device, int x) {
        if (is(device)) {
            dev[device].x = x;
        }
        return is(device);
    }

    boolean advertise(int device, int interval) {
        if (!is(device) || dev[device].state != 0 || tape.length > 20 || interval < 5 || interval > 1000) {
            return false;
        }
        Dev d = dev[device];
        d.state = 1;
        d.advInterval = interval;
        d.next = time;
        d.data = tape;
        tape = new int[0];
        return true;
    }

    boolean scan(int device) {
        if (!is(device) || dev[device].state != 0) {
            return false;
        }
        dev[device].state = 2;
        return true;
    }

    boolean connect(int device, long address, int interval, int timeout, int hop, long map) {
        if (!is(device) || dev[device].state != 0 || !linkOk(interval, timeout, hop, map)) {
            return false;
        }
        Dev d = dev[device];
        d.state = 3;
        d.wanted = address & ((1L << 48) - 1);
        d.wish = new int[] {interval, timeout, hop};
        d.wishMap = map;
        return true;
    }

    boolean stop(int device) {
        if (!is(device) || dev[device].state < 1 || dev[device].state > 3) {
            return false;
        }
        dev[device].state = 0;
        return true;
    }

    int tick(int n) {
        if (n < 1 || n > 1000) {
            throw new IllegalArgumentException();
        }
        int sent = 0;
        for (int i = 0; i < n; i++) {
            step();
            sent += sky.size();
        }
        return sent;
    }

    boolean noise(int device, int bit) {
        if (!is(device) || bit < 0 || bit > 319 || dev[device].noise.size() == 64) {
            return false;
        }
        dev[device].noise.add(bit);
        return true;
    }

    boolean lose(int device, int n) {
        if (!is(device) || n < 0 || n > 100) {
            return false;
        }
        dev[device].lose = n;
        return true;
    }

    int air(int k, int i) {
        if (k < 0 || k >= sky.size() || i < -2 || i >= sky.get(k).bytes.length) {
            throw new NoSuchElementException();
        }
        Packet p = sky.get(k);
        return i == -2 ? p.channel : i == -1 ? p.bytes.length : p.bytes[i];
    }

    int device(int device, int what) {
        if (!is(device)) {
            return NONE;
        }
        Dev d = dev[device];
        Session s = d.s;
        boolean in = d.linked();
        switch (what) {
            case 0: return d.state;
            case 1: return in ? s.event : 0;
            case 2: return in ? s.channel : NONE;
            case 3: return in ? s.sn : 0;
            case 4: return in ? s.nesn : 0;
            case 5: return in ? s.interval : 0;
            case 6: return in ? s.hop : 0;
            case 7: return in ? s.timeout : 0;
            case 8: return in ? s.anchor - time : d.state == 1 ? d.next - time : 0;
            case 9: return s.controls.size();
            case 10: return s.messages.size();
            case 11: return s.current ? s.sort : 0;
            case 12: return s.current ? s.pdu.length : 0;
            case 13: return s.held ? 1 : 0;
            case 14: return s.secure ? 1 : 0;
            case 15: return (int) s.sentSealed;
            case 16: return (int) s.openedSealed;
            case 17: return s.mtu;
            case 18: return s.step;
            case 19: return s.job;
            case 20: return s.parts.size();
            case 21: return d.reports;
            case 22: return d.reportData.length;
            case 23: return d.attributes.size();
            case 24: return d.notes.size();
            case 25: return d.notesLost;
            case 26: return in ? time - s.heardAt : 0;
            case 27: return d.lose;
            case 28: return s.waits30 ? 1 : 0;
            default: return NONE;
        }
    }

    long number(int device, int what) {
        if (!is(device) || what < 0 || what > 2) {
            return NONE;
        }
        Dev d = dev[device];
        return what == 0 ? (d.linked() ? d.s.map : 0) : what == 1 ? d.reportAddress : d.address;
    }

    int byteOf(int device, int what, int i) {
        if (!is(device) || what < 0 || what > 4) {
            return NONE;
        }
        Dev d = dev[device];
        int[][] rows = {d.reportData, d.key, d.s.session, d.s.session == null ? null : d.s.iv, tape};
        int[] r = rows[what];
        return r == null || i < 0 || i >= r.length ? NONE : r[i];
    }

    boolean control(int device, int what) {
        if (!is(device) || !dev[device].linked() || what < 0 || what > 2) {
            return false;
        }
        Session s = dev[device].s;
        if (s.controls.size() > 4 || s.held || what == 0 && s.version) {
            return false;
        }
        s.version |= what == 0;
        s.controls.add(what == 0 ? row(12, 9, 1, 0, 2, 1) : what == 1 ? row(8, le(dev[device].features, 8)) : row(2, 19));
        return true;
    }

    boolean map(int device, long map) {
        if (!is(device) || dev[device].state != 4 || !mapOk(map)) {
            return false;
        }
        Session s = dev[device].s;
        if (s.controls.size() > 4 || s.held || s.waitingMap != null) {
            return false;
        }
        s.waitingMap = map;
        s.instant = (s.event + 8) % 65536;
        s.controls.add(row(1, le(map, 5), le(s.instant, 2)));
        return true;
    }

    boolean encrypt(int device) {
        if (!is(device) || dev[device].state != 4 || dev[device].key == null) {
            return false;
        }
        Session s = dev[device].s;
        if (s.secure || s.held || s.controls.size() > 4) {
            return false;
        }
        s.held = true;
        s.asked = true;
        s.session = null;
        s.ownSkd = dev[device].draws(8);
        s.ownIv = dev[device].draws(4);
        s.controls.add(row(3, s.ownSkd, s.ownIv));
        return true;
    }

    boolean pair(int device, int passkey) {
        if (!is(device) || dev[device].state != 4 || passkey < 0 || passkey > 999999) {
            return false;
        }
        Session s = dev[device].s;
        if (s.step != 0 || s.messages.size() == 8) {
            return false;
        }
        s.tk = passkey;
        s.one = row(1, 3, 0, 0, 16, 0, 0);
        s.step = 1;
        post(s, 6, s.one);
        return true;
    }

    boolean allow(int device, int passkey) {
        if (!is(device) || passkey < -1 || passkey > 999999) {
            return false;
        }
        dev[device].passkey = passkey;
        return true;
    }

    boolean features(int device, long f) {
        if (is(device)) {
            dev[device].features = f;
        }
        return is(device);
    }

    int attribute(int device, int type, int rights) {
        if (!is(device) || dev[device].attributes.size() == 20 || type < 0 || type > 65535 || rights < 0 || rights > 7
                || tape.length > 40) {
            return NONE;
        }
        Attribute at = new Attribute();
        at.type = type;
        at.rights = rights;
        at.bytes = tape;
        tape = new int[0];
        dev[device].attributes.add(at);
        return dev[device].attributes.size();
    }

    boolean has(int device, int handle) {
        return is(device) && handle >= 1 && handle <= dev[device].attributes.size();
    }

    boolean set(int device, int handle) {
        if (!has(device, handle) || tape.length > 40) {
            return false;
        }
        dev[device].attributes.get(handle - 1).bytes = tape;
        tape = new int[0];
        return true;
    }

    int value(int device, int handle, int i) {
        if (!has(device, handle) || i < -1 || i >= dev[device].attributes.get(handle - 1).bytes.length) {
            throw new NoSuchElementException();
        }
        int[] v = dev[device].attributes.get(handle - 1).bytes;
        return i == -1 ? v.length : v[i];
    }

    boolean mtu(int device, int m) {
        if (!is(device) || m < 23 || m > 64) {
            return false;
        }
        dev[device].ownMtu = m;
        return true;
    }

    boolean job(int device, int kind, int a, int b) {
        if (!is(device) || !dev[device].linked() || kind < 0 || kind > 6 || a < 0 || a > 65535 || b < 0 || b > 65535) {
            return false;
        }
        Dev d = dev[device];
        Session s = d.s;
        if (s.job != NONE || s.messages.size() == 8 || kind >= 5 && tape.length > 40) {
            return false;
        }
        s.job = kind;
        s.a = a;
        s.b = b;
        s.jobDone = 0;
        s.jobBytes = new int[0];
        if (kind >= 5) {
            s.jobBytes = tape;
            tape = new int[0];
        }
        post(s, 4, firstRequest(d, s));
        return true;
    }

    boolean send(int device, int kind, int handle) {
        if (!is(device) || !dev[device].linked() || dev[device].s.messages.size() == 8) {
            return false;
        }
        Session s = dev[device].s;
        if (kind == 0) {
            if (handle < 0 || handle > 65535 || tape.length > s.mtu - 3) {
                return false;
            }
            post(s, 4, row(82, le(handle, 2), tape));
            tape = new int[0];
            return true;
        }
        if (kind != 1 && kind != 2 || !has(device, handle) || kind == 2 && s.waits30) {
            return false;
        }
        s.waits30 |= kind == 2;
        int[] v = dev[device].attributes.get(handle - 1).bytes;
        post(s, 4, row(kind == 1 ? 27 : 29, le(handle, 2), sub(v, 0, s.mtu - 3)));
        return true;
    }

    int completion(int device, int what) {
        if (!is(device) || dev[device].notes.isEmpty()) {
            return NONE;
        }
        Note n = dev[device].notes.peek();
        if (what == 0) {
            return n.kind;
        }
        if (what >= 1 && what <= 3) {
            return n.numbers[what - 1];
        }
        if (what == 4) {
            return n.bytes.length;
        }
        return what >= 10 && what - 10 < n.bytes.length ? n.bytes[what - 10] : NONE;
    }

    boolean take(int device) {
        return is(device) && dev[device].notes.poll() != null;
    }
}
