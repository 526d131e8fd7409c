import java.util.ArrayList;
import java.util.List;

/**
 * Flows in which one packet after another goes with a byte changed and a right CRC, so that devices
 * hear what no device of this program says; all answers are compared with the oracle's.
 */
public final class ForgedTest {
    private static final Check CHECK = new Check("ForgedTest");
    private static final long A = 0x665544332211L;
    private static final long B = 0x0F0E0D0C0B0AL;
    private static final long ALL = 0x1FFFFFFFFFL;
    private static final int[] CONTROL_OPS = {0, 1, 2, 3, 4, 5, 6, 7, 8, 9, 10, 11, 12, 13, 14, 255};
    private static final int[] MESSAGE_OPS = {0, 1, 2, 3, 4, 5, 6, 7, 8, 9, 10, 11, 12, 13, 15, 16, 17, 18, 19, 20, 22, 23, 24,
        25, 26, 27, 28, 29, 30, 31, 64, 82, 146, 210};
    private static final int[] BYTES = {0, 1, 2, 4, 5, 16, 22, 23, 40, 128, 255};

    private interface Flow {
        void start(Both x);
    }

    /** A packet that was sent in tick number tick of a flow, as it was without whitening. */
    private static final class Sent {
        int tick;
        int device;
        int[] plain;
    }

    private static void bytes(Both x, int n) {
        x.end(0);
        for (int i = 0; i < n; i += 20) {
            x.feed(0x01020304 + i, 0x11121314, 0x21222324, 0x31323334, 0x41424344);
        }
        x.end(n);
    }

    private static void attribute(Both x, int device, int type, int rights, int n) {
        bytes(x, n);
        x.attribute(device, type, rights);
    }

    private static void link(Both x) {
        attribute(x, 1, 0x2800, 1, 2);
        attribute(x, 1, 0x2803, 1, 5);
        attribute(x, 1, 0x2A00, 3, 40);
        attribute(x, 1, 0x2801, 1, 2);
        attribute(x, 1, 0x2800, 1, 2);
        attribute(x, 1, 0x2A01, 7, 3);
        attribute(x, 0, 0x2A00, 3, 4);
        x.features(0, 0x1122334455667788L);
        x.allow(1, 4711);
        x.advertise(1, 5);
        x.connect(0, B, 2, 40, 7, ALL);
        x.tick(1);
    }

    private static void pair(Both x) {
        link(x);
        x.pair(0, 4711);
        x.tick(20);
    }

    private static void secure(Both x) {
        pair(x);
        x.encrypt(0);
        x.tick(20);
    }

    private static void job(Both x, int kind, int a, int n) {
        link(x);
        bytes(x, n);
        x.job(0, kind, a, 65535);
    }

    private static List<Flow> flows() {
        List<Flow> all = new ArrayList<>();
        all.add(x -> {
            x.advertise(1, 5);
            x.connect(0, B, 2, 40, 7, ALL);
        });
        all.add(x -> {
            x.scan(0);
            bytes(x, 3);
            x.advertise(1, 5);
        });
        all.add(x -> {
            link(x);
            x.control(0, 0);
            x.control(1, 1);
        });
        all.add(x -> {
            link(x);
            x.map(0, 0x155555555L);
        });
        all.add(x -> {
            link(x);
            x.control(1, 2);
        });
        all.add(x -> {
            link(x);
            x.control(0, 2);
        });
        all.add(x -> {
            link(x);
            x.pair(0, 4711);
        });
        all.add(x -> {
            link(x);
            x.allow(1, -1);
            x.pair(0, 4711);
        });
        all.add(x -> {
            link(x);
            x.pair(0, 4712);
        });
        all.add(x -> {
            pair(x);
            x.encrypt(0);
        });
        all.add(x -> {
            pair(x);
            x.control(0, 0);
            x.control(1, 1);
            x.encrypt(0);
        });
        all.add(x -> {
            secure(x);
            x.control(0, 1);
            x.job(0, 4, 6, 0);
        });
        all.add(x -> job(x, 0, 0, 0));
        all.add(x -> job(x, 1, 0, 0));
        all.add(x -> job(x, 2, 1, 0));
        all.add(x -> job(x, 3, 1, 0));
        all.add(x -> job(x, 4, 3, 0));
        all.add(x -> job(x, 5, 3, 4));
        all.add(x -> job(x, 5, 3, 40));
        all.add(x -> job(x, 6, 1, 2));
        all.add(x -> {
            link(x);
            bytes(x, 2);
            x.send(0, 0, 3);
            x.send(0, 1, 1);
            x.send(0, 2, 1);
            x.job(1, 3, 1, 9);
        });
        all.add(x -> {
            x.mtu(0, 64);
            x.mtu(1, 50);
            link(x);
            x.job(0, 0, 0, 0);
            x.tick(8);
            bytes(x, 40);
            x.job(0, 5, 3, 0);
            x.send(1, 2, 3);
        });
        return all;
    }

    private static final int TICKS = 30;

    private static List<Sent> listen(Flow flow) {
        Both x = new Both(CHECK, A, B);
        List<Sent> all = new ArrayList<>();
        flow.start(x);
        for (int t = 0; t < TICKS; t++) {
            x.tick(1);
            boolean[] first = {true, true};
            for (Oracle.Packet p : x.o.sky) {
                if (first[p.from]) {
                    first[p.from] = false;
                    Sent s = new Sent();
                    s.tick = t;
                    s.device = p.from;
                    s.plain = Both.plain(p);
                    all.add(s);
                }
            }
            x.look();
        }
        x.lookClosely();
        return all;
    }

    private static void runForged(Flow flow, Sent sent, int place, int value) {
        int[] shall = sent.plain.clone();
        shall[place] = value;
        if (shall[place] == sent.plain[place]) {
            return;
        }
        Both x = new Both(CHECK, A, B);
        flow.start(x);
        for (int t = 0; t < TICKS; t++) {
            if (t == sent.tick) {
                x.forge(sent.device, sent.plain, shall);
            }
            x.tick(1);
            if (t >= sent.tick) {
                x.look();
            }
        }
        x.tick(50);
        x.look();
        x.lookClosely();
    }

    private static void forgeAll(Flow flow, Sent s) {
        for (int bit = 0; bit < 8; bit++) {
            runForged(flow, s, 0, s.plain[0] ^ 1 << bit);
        }
        if (s.plain.length == 2) {
            return;
        }
        runForged(flow, s, 1, s.plain[1] ^ 1);
        for (int sort = 0; sort < 4; sort++) {
            runForged(flow, s, 0, s.plain[0] & 252 | sort);
        }
        boolean message = (s.plain[0] & 3) == 2 && s.plain.length > 6;
        int opAt = message ? 6 : 2;
        for (int op : message ? MESSAGE_OPS : CONTROL_OPS) {
            runForged(flow, s, opAt, op);
        }
        for (int place = 2; place < s.plain.length; place++) {
            if (place != opAt) {
                runForged(flow, s, place, s.plain[place] + 1 & 255);
                runForged(flow, s, place, BYTES[(place * 7 + s.tick) % BYTES.length]);
                runForged(flow, s, place, BYTES[(place * 5 + s.tick + 3) % BYTES.length]);
            }
        }
        for (int value : BYTES) {
            if (s.plain.length > opAt + 1) {
                runForged(flow, s, opAt + 1, value);
            }
        }
    }

    public static void main(String[] args) {
        int number = 0;
        for (Flow flow : flows()) {
            boolean[] emptyDone = {false, false};
            int wrong = CHECK.wrong();
            for (Sent s : listen(flow)) {
                boolean empty = s.plain.length == 2;
                if (!empty || !emptyDone[s.device]) {
                    forgeAll(flow, s);
                }
                emptyDone[s.device] |= empty;
            }
            if (CHECK.wrong() != wrong) {
                System.out.println("in flow " + number);
            }
            number++;
        }
        CHECK.end();
    }
}
