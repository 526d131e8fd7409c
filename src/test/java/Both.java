import java.util.ArrayList;
import java.util.List;
import java.util.NoSuchElementException;

/** The program and the oracle side by side: every call goes to both, and its answers are compared. */
final class Both {
    interface Call {
        long on(Oracle o);
    }

    static final long THROWN = Long.MIN_VALUE;

    final long first;
    final long second;
    final LowEnergy x;
    final Oracle o;
    final Check check;
    final List<Call> calls = new ArrayList<>();
    final List<String> texts = new ArrayList<>();

    Both(Check check, long first, long second) {
        this.check = check;
        this.first = first;
        this.second = second;
        x = new LowEnergy(first, second);
        o = new Oracle(first, second);
    }

    private long compare(String text, long got, Call call) {
        calls.add(call);
        texts.add(text);
        check.due(text, got, call.on(o));
        return got;
    }

    private static long b(boolean yes) {
        return yes ? 1 : 0;
    }

    boolean seed(int d, int v) {
        return compare("seed(" + d + ", " + v + ")", b(x.seed(d, v)), q -> b(q.seed(d, v))) == 1;
    }

    int feed(int a, int b, int c, int d, int e) {
        return (int) compare("feed(..)", x.feed(a, b, c, d, e), q -> q.feed(a, b, c, d, e));
    }

    int end(int n) {
        return (int) compare("end(" + n + ")", x.end(n), q -> q.end(n));
    }

    boolean advertise(int d, int i) {
        return compare("advertise(" + d + ", " + i + ")", b(x.advertise(d, i)), q -> b(q.advertise(d, i))) == 1;
    }

    boolean scan(int d) {
        return compare("scan(" + d + ")", b(x.scan(d)), q -> b(q.scan(d))) == 1;
    }

    boolean connect(int d, long address, int i, int t, int h, long m) {
        return compare("connect(" + d + ", " + address + ", " + i + ", " + t + ", " + h + ", " + m + ")",
                b(x.connect(d, address, i, t, h, m)), q -> b(q.connect(d, address, i, t, h, m))) == 1;
    }

    boolean stop(int d) {
        return compare("stop(" + d + ")", b(x.stop(d)), q -> b(q.stop(d))) == 1;
    }

    int tick(int n) {
        long got;
        try {
            got = x.tick(n);
        } catch (IllegalArgumentException e) {
            got = THROWN;
        }
        return (int) compare("tick(" + n + ")", got, q -> {
            try {
                return q.tick(n);
            } catch (IllegalArgumentException e) {
                return THROWN;
            }
        });
    }

    boolean noise(int d, int bit) {
        return compare("noise(" + d + ", " + bit + ")", b(x.noise(d, bit)), q -> b(q.noise(d, bit))) == 1;
    }

    boolean lose(int d, int n) {
        return compare("lose(" + d + ", " + n + ")", b(x.lose(d, n)), q -> b(q.lose(d, n))) == 1;
    }

    long air(int k, int i) {
        long got;
        try {
            got = x.air(k, i);
        } catch (NoSuchElementException e) {
            got = THROWN;
        }
        return compare("air(" + k + ", " + i + ")", got, q -> {
            try {
                return q.air(k, i);
            } catch (NoSuchElementException e) {
                return THROWN;
            }
        });
    }

    boolean control(int d, int w) {
        return compare("control(" + d + ", " + w + ")", b(x.control(d, w)), q -> b(q.control(d, w))) == 1;
    }

    boolean map(int d, long m) {
        return compare("map(" + d + ", " + m + ")", b(x.map(d, m)), q -> b(q.map(d, m))) == 1;
    }

    boolean encrypt(int d) {
        return compare("encrypt(" + d + ")", b(x.encrypt(d)), q -> b(q.encrypt(d))) == 1;
    }

    boolean pair(int d, int k) {
        return compare("pair(" + d + ", " + k + ")", b(x.pair(d, k)), q -> b(q.pair(d, k))) == 1;
    }

    boolean allow(int d, int k) {
        return compare("allow(" + d + ", " + k + ")", b(x.allow(d, k)), q -> b(q.allow(d, k))) == 1;
    }

    boolean features(int d, long f) {
        return compare("features(" + d + ", " + f + ")", b(x.features(d, f)), q -> b(q.features(d, f))) == 1;
    }

    int attribute(int d, int t, int r) {
        return (int) compare("attribute(" + d + ", " + t + ", " + r + ")", x.attribute(d, t, r), q -> q.attribute(d, t, r));
    }

    boolean set(int d, int h) {
        return compare("set(" + d + ", " + h + ")", b(x.set(d, h)), q -> b(q.set(d, h))) == 1;
    }

    long value(int d, int h, int i) {
        long got;
        try {
            got = x.value(d, h, i);
        } catch (NoSuchElementException e) {
            got = THROWN;
        }
        return compare("value(" + d + ", " + h + ", " + i + ")", got, q -> {
            try {
                return q.value(d, h, i);
            } catch (NoSuchElementException e) {
                return THROWN;
            }
        });
    }

    boolean mtu(int d, int m) {
        return compare("mtu(" + d + ", " + m + ")", b(x.mtu(d, m)), q -> b(q.mtu(d, m))) == 1;
    }

    boolean job(int d, int k, int a, int c) {
        return compare("job(" + d + ", " + k + ", " + a + ", " + c + ")", b(x.job(d, k, a, c)), q -> b(q.job(d, k, a, c))) == 1;
    }

    boolean send(int d, int k, int h) {
        return compare("send(" + d + ", " + k + ", " + h + ")", b(x.send(d, k, h)), q -> b(q.send(d, k, h))) == 1;
    }

    boolean take(int d) {
        return compare("take(" + d + ")", b(x.take(d)), q -> b(q.take(d))) == 1;
    }

    /** What the next packet of a device will be: a fresh oracle lives through all calls so far. */
    Oracle.Packet peek(int device, int ticks) {
        Oracle ahead = new Oracle(first, second);
        for (Call c : calls) {
            c.on(ahead);
        }
        for (int i = 0; i < ticks; i++) {
            ahead.tick(1);
            for (Oracle.Packet p : ahead.sky) {
                if (p.from == device) {
                    return p;
                }
            }
        }
        return null;
    }

    /** HEADER and PAYLOAD of a packet, without whitening. */
    static int[] plain(Oracle.Packet p) {
        int[] all = Oracle.whiten(Oracle.sub(p.bytes, 4, p.bytes.length), p.channel);
        return Oracle.sub(all, 0, all.length - 3);
    }

    /** Tells noise that makes a packet's HEADER and PAYLOAD another one with a right CRC. */
    boolean forge(int device, int[] is, int[] shall) {
        int[] change = new int[is.length];
        int bits = 0;
        for (int i = 0; i < is.length; i++) {
            change[i] = is[i] ^ shall[i];
        }
        int[] all = Oracle.row(change, Oracle.crc(change, 0));
        for (int v : all) {
            bits += Integer.bitCount(v);
        }
        if (bits > 64 - o.dev[device].noise.size()) {
            return false;
        }
        for (int i = 0; i < 8 * all.length; i++) {
            if ((all[i / 8] >> (i % 8) & 1) == 1) {
                noise(device, 32 + i);
            }
        }
        return true;
    }

    private void lookAtTheAir() {
        for (int k = 0; k < o.sky.size(); k++) {
            Oracle.Packet p = o.sky.get(k);
            check.due("channel of packet " + k, x.air(k, -2), p.channel);
            check.due("bytes of packet " + k, x.air(k, -1), p.bytes.length);
            for (int i = 0; i < p.bytes.length; i++) {
                check.due("air(" + k + ", " + i + ")", x.air(k, i), p.bytes[i]);
            }
        }
    }

    /** Compares what is to be seen without long loops. */
    void look() {
        lookAtTheAir();
        for (int d = 0; d < 2; d++) {
            for (int w = 0; w <= 28; w++) {
                check.due("device(" + d + ", " + w + ")", x.device(d, w), o.device(d, w));
            }
            for (int w = 0; w < 3; w++) {
                check.due("number(" + d + ", " + w + ")", x.number(d, w), o.number(d, w));
            }
            for (int w = 0; w <= 14; w++) {
                check.due("completion(" + d + ", " + w + ")", x.completion(d, w), o.completion(d, w));
            }
        }
    }

    void lookClosely() {
        for (int d = -1; d < 3; d++) {
            for (int w = -1; w <= 5; w++) {
                for (int i = -1; i < 32; i++) {
                    check.due("byteOf(" + d + ", " + w + ", " + i + ")", x.byteOf(d, w, i), o.byteOf(d, w, i));
                }
            }
            for (int w = -1; w <= 52; w++) {
                check.due("completion(" + d + ", " + w + ")", x.completion(d, w), o.completion(d, w));
            }
            for (int h = 0; h <= 21; h++) {
                long size = value(d, h, -1);
                for (int i = -2; i <= size; i += i < 0 ? 1 : 3) {
                    value(d, h, i);
                }
            }
        }
        for (int k = -1; k < 8; k++) {
            long size = air(k, -1);
            air(k, -2);
            air(k, -3);
            for (int i = 0; i <= size; i++) {
                air(k, i);
            }
        }
    }
}
