import java.util.NoSuchElementException;

/** The promises one by one: ordinary inputs, the edges that the document names, wrong inputs. */
public final class PromisesTest {
    private static final Check CHECK = new Check("PromisesTest");
    private static final int NONE = -1;
    private static final long A = 0x112233445566L;
    private static final long B = 0xAABBCCDDEEFFL;
    private static final long ALL = 0x1FFFFFFFFFL;

    public static void main(String[] args) {
        aNewObject();
        tape();
        seedAndAdvertise();
        scan();
        connect();
        stop();
        tick();
        noise();
        lose();
        air();
        device();
        numberAndByteOf();
        control();
        map();
        encrypt();
        pairAndAllow();
        features();
        attributes();
        mtu();
        job();
        send();
        completions();
        CHECK.end();
    }

    private static void due(String what, long got, long want) {
        CHECK.due(what, got, want);
    }

    private static void yes(String what, boolean got) {
        CHECK.due(what, got, true);
    }

    private static void no(String what, boolean got) {
        CHECK.due(what, got, false);
    }

    private static void ticks(String what, LowEnergy x, int n, boolean thrown) {
        boolean threw = false;
        try {
            x.tick(n);
        } catch (IllegalArgumentException e) {
            threw = true;
        }
        CHECK.due(what, threw, thrown);
    }

    private static void noAir(String what, LowEnergy x, int k, int i) {
        boolean threw = false;
        try {
            x.air(k, i);
        } catch (NoSuchElementException e) {
            threw = true;
        }
        yes(what, threw);
    }

    private static void noValue(String what, LowEnergy x, int d, int h, int i) {
        boolean threw = false;
        try {
            x.value(d, h, i);
        } catch (NoSuchElementException e) {
            threw = true;
        }
        yes(what, threw);
    }

    /** Fills the TAPE with n bytes 1, 2, 3, .. */
    private static void fill(LowEnergy x, int n) {
        x.end(0);
        for (int i = 0; i < n; i += 20) {
            int[] w = new int[5];
            for (int k = 0; k < 20; k++) {
                w[k / 4] |= (i + k + 1 & 255) << 24 - 8 * (k % 4);
            }
            x.feed(w[0], w[1], w[2], w[3], w[4]);
        }
        x.end(n);
    }

    private static LowEnergy linked(int interval, int timeout) {
        LowEnergy x = new LowEnergy(A, B);
        link(x, interval, timeout);
        return x;
    }

    private static void link(LowEnergy x, int interval, int timeout) {
        x.end(0);
        yes("advertise", x.advertise(1, 5));
        yes("connect", x.connect(0, B, interval, timeout, 7, ALL));
        for (int i = 0; i < 40 && x.device(1, 0) != 5; i++) {
            x.tick(1);
        }
        due("central", x.device(0, 0), 4);
        due("peripheral", x.device(1, 0), 5);
    }

    private static void drop(LowEnergy x, int device) {
        for (int i = 0; i < 32; i++) {
            x.take(device);
        }
    }

    private static void dueCompletion(String what, LowEnergy x, int device, int... want) {
        for (int i = 0; i < want.length; i++) {
            due(what + ", completion(" + device + ", " + i + ")", x.completion(device, i), want[i]);
        }
        yes(what + ", take", x.take(device));
    }

    // 1
    private static void aNewObject() {
        LowEnergy x = new LowEnergy(-1L, 0x1234_0000_0000_0005L);
        due("lowest 48 bits", x.number(0, 2), 0xFFFFFFFFFFFFL);
        due("lowest 48 bits", x.number(1, 2), 5);
        for (int d = 0; d < 2; d++) {
            for (int w = 0; w <= 28; w++) {
                due("device(" + d + ", " + w + ")", x.device(d, w), w == 17 ? 23 : w == 2 || w == 19 ? NONE : 0);
            }
            due("no KEY", x.byteOf(d, 1, 0), NONE);
            due("no ATTRIBUTES", x.device(d, 23), 0);
            due("no completion", x.completion(d, 0), NONE);
        }
        due("the constant", LowEnergy.NONE, -1);
        // DRAWS of 0 and 1: the first ones are bits 16 to 23 of 12345 and of 1103515245 + 12345.
        x.advertise(0, 5);
        x.tick(1);
        due("draw of 0", x.device(0, 8), 5 + (12345 >> 16 & 3) - 1);
        LowEnergy y = new LowEnergy(A, B);
        y.advertise(1, 5);
        y.tick(1);
        due("draw of 1", y.device(1, 8), 5 + (1103515245 + 12345 >> 16 & 3) - 1);
    }

    // 2, 3
    private static void tape() {
        LowEnergy x = new LowEnergy(A, B);
        due("feed", x.feed(0x01020304, -1, 0x80000000, 5, 0x7F00FF10), 20);
        int[] want = {1, 2, 3, 4, 255, 255, 255, 255, 128, 0, 0, 0, 0, 0, 0, 5, 127, 0, 255, 16};
        for (int i = 0; i < 20; i++) {
            due("tape byte " + i, x.byteOf(0, 4, i), want[i]);
            due("the same of both", x.byteOf(1, 4, i), want[i]);
        }
        due("behind it", x.byteOf(0, 4, 20), NONE);
        due("end above", x.end(21), NONE);
        due("end below", x.end(-1), NONE);
        due("end keeps all", x.end(20), 20);
        due("end 3", x.end(3), 3);
        due("gone", x.byteOf(0, 4, 3), NONE);
        due("stays", x.byteOf(0, 4, 2), 3);
        due("23", x.feed(9, 9, 9, 9, 9), 23);
        due("behind the third", x.byteOf(0, 4, 6), 9);
        x.end(0);
        for (int i = 1; i <= 5; i++) {
            due("feed " + i, x.feed(i, 0, 0, 0, 0), 20 * i);
        }
        due("more than 100", x.feed(6, 6, 6, 6, 6), NONE);
        due("none comes", x.byteOf(0, 4, 100), NONE);
        due("end 81", x.end(81), 81);
        due("81 and 20", x.feed(6, 6, 6, 6, 6), NONE);
        due("end 80", x.end(80), 80);
        due("80 and 20", x.feed(6, 6, 6, 6, 6), 100);
        due("end 0", x.end(0), 0);
    }

    // 4, 5
    private static void seedAndAdvertise() {
        LowEnergy x = new LowEnergy(A, B);
        no("seed -1", x.seed(-1, 3));
        no("seed 2", x.seed(2, 3));
        no("advertise -1", x.advertise(-1, 5));
        no("advertise 2", x.advertise(2, 5));
        no("interval 4", x.advertise(0, 4));
        no("interval 1001", x.advertise(0, 1001));
        fill(x, 21);
        no("21 bytes", x.advertise(0, 5));
        due("the TAPE stays", x.byteOf(0, 4, 20), 21);
        x.end(20);
        x.tick(7);
        yes("seed", x.seed(0, 77));
        yes("20 bytes", x.advertise(0, 1000));
        due("the TAPE is empty", x.byteOf(0, 4, 0), NONE);
        due("ADVERTISING", x.device(0, 0), 1);
        due("NEXT is the present one", x.device(0, 8), 0);
        no("not STANDBY", x.advertise(0, 5));
        due("three packets", x.tick(1), 3);
        int y = 77 * 1103515245 + 12345;
        due("NEXT", x.device(0, 8), 1000 + (y >> 16 & 3) - 1);
        for (int i = 0; i < 3; i++) {
            due("channel", x.air(i, -2), 37 + i);
            due("bytes", x.air(i, -1), 4 + 2 + 6 + 20 + 3);
        }
        due("nothing else", x.tick(1000 + (y >> 16 & 3) - 1), 0);
        due("again", x.tick(1), 3);
        LowEnergy z = new LowEnergy(A, B);
        yes("seed 1", z.seed(1, -7));
        yes("interval 5", z.advertise(1, 5));
        int s = -7;
        int at = 0;
        for (int t = 0; t < 60; t++) {
            due("tick " + t, z.tick(1), t == at ? 3 : 0);
            if (t == at) {
                s = s * 1103515245 + 12345;
                at += 5 + (s >> 16 & 3);
            }
        }
    }

    // 6
    private static void scan() {
        LowEnergy x = new LowEnergy(A, B);
        no("scan 2", x.scan(2));
        no("scan -1", x.scan(-1));
        yes("scan", x.scan(0));
        due("SCANNING", x.device(0, 0), 2);
        no("not STANDBY", x.scan(0));
        fill(x, 3);
        x.advertise(1, 7);
        x.tick(1);
        due("a REPORT on 37", x.device(0, 21), 1);
        due("its DATA", x.device(0, 22), 3);
        due("its address", x.number(0, 1), B);
        due("byte 2", x.byteOf(0, 0, 2), 3);
        due("byte 3", x.byteOf(0, 0, 3), NONE);
        x.stop(1);
        x.tick(1);
        fill(x, 1);
        x.advertise(1, 7);
        x.noise(1, 40);
        x.tick(1);
        due("only the first packet was noisy, channel 39 is heard", x.device(0, 21), 2);
        due("the latest DATA", x.device(0, 22), 1);
        x.stop(1);
        x.advertise(1, 7);
        x.noise(1, 40);
        x.tick(1);
        due("channel 37 is listened to, and its packet is not GOOD", x.device(0, 21), 2);
        due("of the other one nothing", x.device(1, 21), 0);
    }

    // 7
    private static void connect() {
        LowEnergy x = new LowEnergy(A, B);
        no("device 2", x.connect(2, B, 2, 10, 5, 3));
        no("device -1", x.connect(-1, B, 2, 10, 5, 3));
        no("interval 1", x.connect(0, B, 1, 10, 5, 3));
        no("interval 51", x.connect(0, B, 51, 10, 5, 3));
        no("timeout 9", x.connect(0, B, 2, 9, 5, 3));
        no("timeout 2001", x.connect(0, B, 2, 2001, 5, 3));
        no("hop 4", x.connect(0, B, 2, 10, 4, 3));
        no("hop 17", x.connect(0, B, 2, 10, 17, 3));
        no("one channel", x.connect(0, B, 2, 10, 5, 4));
        no("no channel", x.connect(0, B, 2, 10, 5, 0));
        no("channel 37", x.connect(0, B, 2, 10, 5, 3 | 1L << 37));
        no("below 0", x.connect(0, B, 2, 10, 5, -1));
        due("STANDBY still", x.device(0, 0), 0);
        yes("least", x.connect(0, B | 1L << 50, 2, 10, 5, 3));
        due("INITIATING", x.device(0, 0), 3);
        due("no MAP as yet", x.number(0, 0), 0);
        due("no INTERVAL as yet", x.device(0, 5), 0);
        no("not STANDBY", x.connect(0, B, 2, 10, 5, 3));
        x.advertise(1, 5);
        due("adv and its answer", x.tick(1), 2);
        due("CENTRAL", x.device(0, 0), 4);
        due("PERIPHERAL", x.device(1, 0), 5);
        dueCompletion("connected", x, 0, 0, 4, 0, 0, 0);
        dueCompletion("connected", x, 1, 0, 5, 0, 0, 0);
        int[] want = {5, 0, NONE, 0, 0, 2, 5, 10, 1};
        for (int d = 0; d < 2; d++) {
            for (int w = 1; w <= 8; w++) {
                due("device(" + d + ", " + w + ")", x.device(d, w), want[w]);
            }
            due("MAP", x.number(d, 0), 3);
            due("HEARD AT", x.device(d, 26), 1);
        }
        LowEnergy y = new LowEnergy(A, B);
        yes("greatest", y.connect(0, B, 50, 2000, 16, ALL));
        y.advertise(1, 5);
        y.tick(1);
        due("INTERVAL", y.device(1, 5), 50);
        due("TIMEOUT", y.device(1, 7), 2000);
        due("HOP", y.device(1, 6), 16);
        due("MAP", y.number(1, 0), ALL);
        LowEnergy z = new LowEnergy(A, B);
        yes("another address", z.connect(0, A, 2, 10, 5, 3));
        z.advertise(1, 5);
        due("no answer", z.tick(1), 3);
        due("INITIATING still", z.device(0, 0), 3);
    }

    // 8
    private static void stop() {
        LowEnergy x = new LowEnergy(A, B);
        no("STANDBY", x.stop(0));
        no("device 2", x.stop(2));
        no("device -1", x.stop(-1));
        x.advertise(0, 5);
        yes("ADVERTISING", x.stop(0));
        due("STANDBY", x.device(0, 0), 0);
        due("nothing is sent", x.tick(20), 0);
        x.scan(0);
        yes("SCANNING", x.stop(0));
        x.connect(0, B, 2, 10, 5, 3);
        yes("INITIATING", x.stop(0));
        due("STANDBY", x.device(0, 0), 0);
        LowEnergy y = linked(3, 100);
        no("CENTRAL", y.stop(0));
        no("PERIPHERAL", y.stop(1));
    }

    // 9
    private static void tick() {
        LowEnergy x = new LowEnergy(A, B);
        ticks("0", x, 0, true);
        ticks("-1", x, -1, true);
        ticks("1001", x, 1001, true);
        ticks("least", x, Integer.MIN_VALUE, true);
        x.advertise(1, 1000);
        due("no tick went by", x.device(1, 8), 0);
        ticks("1000", x, 1000, false);
        LowEnergy y = linked(10, 2000);
        due("ten events of two packets", y.tick(100), 20);
        due("EVENT", y.device(0, 1), 10);
        due("EVENT", y.device(1, 1), 10);
    }

    // 10
    private static void noise() {
        LowEnergy x = new LowEnergy(A, B);
        no("device 2", x.noise(2, 0));
        no("device -1", x.noise(-1, 0));
        no("bit -1", x.noise(0, -1));
        no("bit 320", x.noise(0, 320));
        x.advertise(0, 5);
        x.tick(1);
        int was = x.air(0, 7);
        x.stop(0);
        x.tick(2);
        x.advertise(0, 5);
        yes("bit 61", x.noise(0, 61));
        yes("bit 319, which it does not have", x.noise(0, 319));
        x.tick(1);
        due("bit 5 of byte 7", x.air(0, 7), was ^ 32);
        due("as many bytes", x.air(0, -1), 15);
        x.stop(0);
        x.advertise(0, 5);
        x.noise(0, 61);
        x.noise(0, 61);
        x.tick(1);
        due("turned over again", x.air(0, 7), was);
        x.stop(0);
        for (int i = 0; i < 64; i++) {
            yes("told " + i, x.noise(0, 56));
        }
        no("64 at most", x.noise(0, 56));
        yes("the other one's", x.noise(1, 56));
        x.advertise(0, 5);
        x.tick(1);
        due("an even number", x.air(0, 7), was);
        yes("anew", x.noise(0, 0));
        x.stop(0);
        x.advertise(0, 5);
        x.tick(1);
        due("ACCESS too", x.air(0, 0), 0xD6 ^ 1);
        due("only the next packet", x.air(1, 0), 0xD6);
    }

    // 11
    private static void lose() {
        LowEnergy x = new LowEnergy(A, B);
        no("device 2", x.lose(2, 1));
        no("device -1", x.lose(-1, 1));
        no("-1", x.lose(1, -1));
        no("101", x.lose(1, 101));
        yes("100", x.lose(1, 100));
        due("100", x.device(1, 27), 100);
        yes("in place", x.lose(1, 4));
        due("4", x.device(1, 27), 4);
        due("of the other one none", x.device(0, 27), 0);
        x.scan(0);
        x.advertise(1, 5);
        due("they are sent", x.tick(1), 3);
        due("one is left", x.device(1, 27), 1);
        due("nothing was heard", x.device(0, 21), 0);
        due("it was in the air", x.air(2, -2), 39);
        yes("none", x.lose(1, 0));
        due("none", x.device(1, 27), 0);
        x.stop(1);
        x.advertise(1, 5);
        x.tick(1);
        due("heard", x.device(0, 21), 1);
    }

    // 12
    private static void air() {
        LowEnergy x = new LowEnergy(A, B);
        noAir("ahead of a tick", x, 0, NONE);
        fill(x, 2);
        x.advertise(1, 50);
        x.tick(1);
        int[] plain = Oracle.row(0, 8, Oracle.le(B, 6), 1, 2);
        for (int k = 0; k < 3; k++) {
            int[] want = Oracle.row(0xD6, 0xBE, 0x89, 0x8E,
                    Oracle.whiten(Oracle.row(plain, Oracle.crc(plain, 0x555555)), 37 + k));
            due("bytes", x.air(k, NONE), want.length);
            due("channel", x.air(k, -2), 37 + k);
            for (int i = 0; i < want.length; i++) {
                due("air(" + k + ", " + i + ")", x.air(k, i), want[i]);
            }
            noAir("behind it", x, k, want.length);
            noAir("-3", x, k, -3);
        }
        noAir("packet 3", x, 3, 0);
        noAir("packet -1", x, -1, 0);
        noAir("far", x, Integer.MAX_VALUE, Integer.MIN_VALUE);
        ticks("a tick that is refused", x, 0, true);
        due("the latest tick is the same", x.air(0, NONE), 17);
        x.tick(2);
        noAir("a tick without packets", x, 0, NONE);
        // By hand: r is 101 for channel 37, so its bits go 1 0 1 1 0 0 0 1: a byte 0 goes as 0x8D.
        LowEnergy y = new LowEnergy(A, 0);
        y.advertise(1, 5);
        y.tick(1);
        due("a whitened 0", y.air(0, 4), 0x8D);
    }

    // 13
    private static void device() {
        LowEnergy x = linked(4, 100);
        due("device 2", x.device(2, 0), NONE);
        due("device -1", x.device(-1, 0), NONE);
        due("what 29", x.device(0, 29), NONE);
        due("what -1", x.device(0, -1), NONE);
        due("ANCHOR", x.device(0, 8), 3);
        due("no CURRENT PDU", x.device(0, 11), 0);
        x.control(0, 1);
        x.control(0, 1);
        due("CONTROL that wait", x.device(0, 9), 2);
        x.tick(4);
        due("EVENT", x.device(0, 1), 1);
        due("channel", x.device(0, 2), 7);
        due("channel", x.device(1, 2), 7);
        due("SN of CENTRAL", x.device(0, 3), 1);
        due("NESN of CENTRAL", x.device(0, 4), 1);
        due("SN of PERIPHERAL", x.device(1, 3), 0);
        due("NESN of PERIPHERAL", x.device(1, 4), 1);
        due("CENTRAL has none", x.device(0, 11), 0);
        due("PERIPHERAL sent a 9", x.device(1, 11), 3);
        due("nine bytes", x.device(1, 12), 9);
        due("one waits", x.device(0, 9), 1);
        due("ANCHOR", x.device(1, 8), 3);
        due("HEARD AT", x.device(1, 26), 1);
        x.lose(0, 1);
        x.tick(4);
        due("u is 14", x.device(0, 2), 14);
        due("the PERIPHERAL hopped, too", x.device(1, 2), 14);
        due("SORT", x.device(0, 11), 3);
        due("its bytes", x.device(0, 12), 9);
        due("HEARD AT", x.device(1, 26), 5);
        due("HEARD AT", x.device(0, 26), 5);
        x.job(0, 1, 0, 0);
        x.send(0, 0, 9);
        due("messages", x.device(0, 10), 2);
        due("JOB", x.device(0, 19), 1);
        x.tick(40);
        due("no JOB", x.device(0, 19), NONE);
        due("no message", x.device(0, 10), 0);
    }

    // 14, 15
    private static void numberAndByteOf() {
        LowEnergy x = new LowEnergy(A, B);
        due("own", x.number(0, 2), A);
        due("own", x.number(1, 2), B);
        due("no link", x.number(0, 0), 0);
        due("no REPORT", x.number(0, 1), 0);
        due("what 3", x.number(0, 3), NONE);
        due("what -1", x.number(0, -1), NONE);
        due("device 2", x.number(2, 2), NONE);
        due("device -1", x.number(-1, 2), NONE);
        due("no REPORT", x.byteOf(0, 0, 0), NONE);
        due("what 5", x.byteOf(0, 5, 0), NONE);
        due("what -1", x.byteOf(0, -1, 0), NONE);
        fill(x, 3);
        due("TAPE", x.byteOf(1, 4, 0), 1);
        due("no such device", x.byteOf(2, 4, 0), NONE);
        due("no such device", x.byteOf(-1, 4, 0), NONE);
        due("byte -1", x.byteOf(0, 4, -1), NONE);
        LowEnergy y = secured();
        for (int w = 1; w <= 3; w++) {
            for (int i = 0; i < 16; i++) {
                due("both have the same " + w + ", " + i, y.byteOf(0, w, i), y.byteOf(1, w, i));
            }
            due("byte -1", y.byteOf(0, w, -1), NONE);
            due("byte 16", y.byteOf(0, w, 16), NONE);
        }
        yes("a KEY", y.byteOf(0, 1, 15) >= 0);
        yes("a SESSION", y.byteOf(0, 2, 15) >= 0);
        yes("an IV", y.byteOf(0, 3, 7) >= 0);
        due("IV has eight", y.byteOf(0, 3, 8), NONE);
        y.control(0, 2);
        y.tick(20);
        due("STANDBY", y.device(0, 0), 0);
        yes("the KEY stays", y.byteOf(0, 1, 0) >= 0);
        due("the SESSION goes", y.byteOf(0, 2, 0), NONE);
        due("the IV goes", y.byteOf(0, 3, 0), NONE);
        due("no MAP", y.number(0, 0), 0);
    }

    private static LowEnergy paired() {
        LowEnergy x = linked(2, 100);
        x.allow(1, 123456);
        x.pair(0, 123456);
        x.tick(60);
        drop(x, 0);
        drop(x, 1);
        return x;
    }

    private static LowEnergy secured() {
        LowEnergy x = paired();
        x.encrypt(0);
        x.tick(40);
        drop(x, 0);
        drop(x, 1);
        return x;
    }

    // 16
    private static void control() {
        LowEnergy w = new LowEnergy(A, B);
        no("no link", w.control(0, 1));
        LowEnergy x = linked(3, 100);
        drop(x, 0);
        drop(x, 1);
        no("device 2", x.control(2, 1));
        no("device -1", x.control(-1, 1));
        no("what 3", x.control(0, 3));
        no("what -1", x.control(0, -1));
        yes("version", x.control(0, 0));
        no("one was", x.control(0, 0));
        x.tick(12);
        dueCompletion("version there", x, 1, 14, 9, 1, 258, 0);
        dueCompletion("version here", x, 0, 14, 9, 1, 258, 0);
        no("one was as an answer", x.control(1, 0));
        for (int i = 0; i < 5; i++) {
            yes("8 number " + i, x.control(1, 1));
        }
        due("five wait", x.device(1, 9), 5);
        no("more than four wait", x.control(1, 1));
        no("more than four wait", x.control(1, 2));
        x.tick(60);
        due("five answers", x.device(1, 24), 5);
        drop(x, 1);
        yes("a 2", x.control(1, 2));
        x.tick(3);
        due("CENTRAL still", x.device(0, 0), 4);
        x.tick(3);
        dueCompletion("the REASON", x, 0, 7, 19, 0, 0, 0);
        dueCompletion("it is ACKNOWLEDGED", x, 1, 7, 22, 0, 0, 0);
        due("STANDBY", x.device(0, 0), 0);
        due("STANDBY", x.device(1, 0), 0);
        LowEnergy y = paired();
        y.encrypt(0);
        no("HELD", y.control(0, 1));
        yes("the other one is not", y.control(1, 1));
        LowEnergy z = linked(3, 100);
        drop(z, 0);
        drop(z, 1);
        z.control(0, 2);
        z.tick(3);
        dueCompletion("at once", z, 1, 7, 19, 0, 0, 0);
        dueCompletion("in the same tick", z, 0, 7, 22, 0, 0, 0);
    }

    // 17
    private static void map() {
        LowEnergy x = linked(2, 100);
        no("PERIPHERAL", x.map(1, 3));
        no("device 2", x.map(2, 3));
        no("one channel", x.map(0, 1));
        no("other bits", x.map(0, 3 | 1L << 37));
        no("below 0", x.map(0, -1));
        yes("two channels", x.map(0, 1L << 36 | 1));
        no("one waits", x.map(0, 3));
        due("EVENT", x.device(0, 1), 0);
        x.tick(1);
        for (int e = 0; e < 20; e++) {
            due("MAP ahead of EVENT " + e, x.number(0, 0), e <= 8 ? ALL : 1L << 36 | 1);
            due("MAP ahead of EVENT " + e, x.number(1, 0), e <= 8 ? ALL : 1L << 36 | 1);
            x.tick(2);
            int u = 7 * (e + 1) % 37;
            int channel = e < 8 ? u : u == 36 || u == 0 ? u : u % 2 == 0 ? 0 : 36;
            due("channel of EVENT " + e, x.device(0, 2), channel);
            due("channel of EVENT " + e, x.device(1, 2), channel);
        }
        yes("another one", x.map(0, 3));
        LowEnergy y = linked(2, 100);
        for (int i = 0; i < 5; i++) {
            y.control(0, 1);
        }
        no("more than four wait", y.map(0, 3));
        LowEnergy z = paired();
        z.encrypt(0);
        no("HELD", z.map(0, 3));
        LowEnergy w = linked(2, 100);
        drop(w, 1);
        w.tick(4);
        w.lose(0, 8);
        w.map(0, ALL ^ 1L << 36);
        w.tick(16);
        due("it has not come", w.device(1, 24), 0);
        w.tick(2);
        dueCompletion("its INSTANT is there", w, 1, 7, 40, 0, 0, 0);
        LowEnergy v = linked(2, 100);
        v.tick(4);
        v.lose(0, 7);
        v.map(0, 3);
        v.tick(30);
        due("it came just in time", v.number(1, 0), 3);
        due("both hop by it", v.device(0, 26), v.device(1, 26));
    }

    // 18
    private static void encrypt() {
        LowEnergy w = linked(2, 100);
        no("no KEY", w.encrypt(0));
        LowEnergy x = paired();
        no("PERIPHERAL", x.encrypt(1));
        no("device 2", x.encrypt(2));
        for (int i = 0; i < 5; i++) {
            x.control(0, 1);
        }
        no("more than four wait", x.encrypt(0));
        x.tick(30);
        drop(x, 0);
        yes("encrypt", x.encrypt(0));
        due("HELD", x.device(0, 13), 1);
        due("a 3 waits", x.device(0, 9), 1);
        due("no SESSION as yet", x.byteOf(0, 2, 0), NONE);
        no("HELD", x.encrypt(0));
        x.tick(2);
        due("the other one is HELD", x.device(1, 13), 1);
        yes("and has a SESSION", x.byteOf(1, 2, 0) >= 0);
        x.tick(20);
        for (int d = 0; d < 2; d++) {
            dueCompletion("SECURE", x, d, 12, 0, 0, 0, 0);
            due("SECURE", x.device(d, 14), 1);
            due("not HELD", x.device(d, 13), 0);
            due("sent SEALED", x.device(d, 15), 1);
            due("opened SEALED", x.device(d, 16), 1);
        }
        no("SECURE", x.encrypt(0));
        x.control(0, 1);
        x.tick(20);
        due("8 was SEALED", x.device(0, 15), 2);
        due("9 was opened", x.device(0, 16), 2);
        due("features came", x.completion(0, 0), 15);
        int[] key = new int[16];
        for (int i = 0; i < 16; i++) {
            key[i] = x.byteOf(0, 1, i);
        }
        LowEnergy y = paired();
        y.seed(0, 5);
        y.seed(1, 6);
        y.encrypt(0);
        y.tick(20);
        Oracle.Dev zero = new Oracle.Dev();
        Oracle.Dev one = new Oracle.Dev();
        zero.x = 5;
        one.x = 6;
        for (int i = 0; i < 16; i++) {
            key[i] = y.byteOf(0, 1, i);
        }
        int[] session = Oracle.e(key, Oracle.row(zero.draws(8), one.draws(8)));
        int[] iv = Oracle.row(zero.draws(4), one.draws(4));
        for (int i = 0; i < 16; i++) {
            due("SESSION " + i, y.byteOf(1, 2, i), session[i]);
        }
        for (int i = 0; i < 8; i++) {
            due("IV " + i, y.byteOf(1, 3, i), iv[i]);
        }
    }

    // 19, 20
    private static void pairAndAllow() {
        LowEnergy x = linked(2, 100);
        no("allow 2", x.allow(2, 1));
        no("allow -1", x.allow(-1, 1));
        no("passkey -2", x.allow(1, -2));
        no("passkey 1000000", x.allow(1, 1000000));
        no("pair: PERIPHERAL", x.pair(1, 1));
        no("pair: device 2", x.pair(2, 1));
        no("pair: passkey -1", x.pair(0, -1));
        no("pair: passkey 1000000", x.pair(0, 1000000));
        drop(x, 0);
        drop(x, 1);
        yes("pair without allow", x.pair(0, 5));
        due("step 1", x.device(0, 18), 1);
        no("step is not 0", x.pair(0, 5));
        x.tick(20);
        dueCompletion("refused", x, 0, 11, 5, 0, 0, 0);
        dueCompletion("refused", x, 1, 11, 5, 0, 0, 0);
        due("step 0", x.device(0, 18), 0);
        yes("allow", x.allow(1, 999999));
        yes("pair with another one", x.pair(0, 0));
        x.tick(40);
        dueCompletion("a wrong passkey", x, 1, 11, 4, 0, 0, 0);
        dueCompletion("a wrong passkey", x, 0, 11, 4, 0, 0, 0);
        due("no KEY", x.byteOf(0, 1, 0), NONE);
        x.seed(0, 50);
        x.seed(1, 60);
        yes("pair", x.pair(0, 999999));
        x.tick(40);
        dueCompletion("paired", x, 0, 10, 0, 0, 0, 0);
        dueCompletion("paired", x, 1, 10, 0, 0, 0, 0);
        Oracle.Dev zero = new Oracle.Dev();
        Oracle.Dev one = new Oracle.Dev();
        zero.x = 50;
        one.x = 60;
        int[] central = zero.draws(16);
        int[] peripheral = one.draws(16);
        int[] tk = Oracle.row(Oracle.le(999999, 4), new int[12]);
        int[] key = Oracle.e(tk, Oracle.row(Oracle.sub(peripheral, 0, 8), Oracle.sub(central, 0, 8)));
        for (int i = 0; i < 16; i++) {
            due("KEY " + i, x.byteOf(0, 1, i), key[i]);
            due("KEY " + i, x.byteOf(1, 1, i), key[i]);
        }
        yes("none", x.allow(1, NONE));
        yes("pair", x.pair(0, 999999));
        x.tick(20);
        dueCompletion("none is allowed", x, 1, 11, 5, 0, 0, 0);
        LowEnergy y = linked(2, 100);
        for (int i = 0; i < 8; i++) {
            y.send(0, 0, 1);
        }
        no("8 messages wait", y.pair(0, 1));
        LowEnergy z = linked(2, 100);
        z.allow(1, 7);
        z.pair(0, 7);
        z.tick(2);
        due("step 2 of who got the 1", z.device(1, 18), 2);
        z.allow(1, NONE);
        z.tick(40);
        yes("the passkey is that of the time when the 1 came", z.byteOf(1, 1, 0) >= 0);
    }

    // 21
    private static void features() {
        LowEnergy x = linked(2, 100);
        drop(x, 0);
        no("device 2", x.features(2, 1));
        no("device -1", x.features(-1, 1));
        yes("features", x.features(1, 0x8877665544332211L));
        x.control(0, 1);
        x.tick(10);
        dueCompletion("FEATURES", x, 0, 15, 0, 0, 0, 8, NONE, NONE, NONE, NONE, NONE,
                0x11, 0x22, 0x33, 0x44, 0x55, 0x66, 0x77, 0x88, NONE);
    }

    // 22, 23, 24
    private static void attributes() {
        LowEnergy x = new LowEnergy(A, B);
        fill(x, 41);
        due("41 bytes", x.attribute(0, 1, 1), NONE);
        x.end(40);
        due("TYPE -1", x.attribute(0, -1, 1), NONE);
        due("TYPE 65536", x.attribute(0, 65536, 1), NONE);
        due("RIGHTS -1", x.attribute(0, 1, -1), NONE);
        due("RIGHTS 8", x.attribute(0, 1, 8), NONE);
        due("device 2", x.attribute(2, 1, 1), NONE);
        due("device -1", x.attribute(-1, 1, 1), NONE);
        due("the TAPE stays", x.byteOf(0, 4, 39), 40);
        due("HANDLE 1", x.attribute(0, 65535, 7), 1);
        due("the TAPE is empty", x.byteOf(0, 4, 0), NONE);
        due("HANDLE 2", x.attribute(0, 0, 0), 2);
        due("40 bytes", x.value(0, 1, NONE), 40);
        due("byte 39", x.value(0, 1, 39), 40);
        due("no bytes", x.value(0, 2, NONE), 0);
        noValue("byte 40", x, 0, 1, 40);
        noValue("byte -2", x, 0, 1, -2);
        noValue("byte 0 of none", x, 0, 2, 0);
        noValue("HANDLE 0", x, 0, 0, NONE);
        noValue("HANDLE 3", x, 0, 3, NONE);
        noValue("device 1 has none", x, 1, 1, NONE);
        noValue("device 2", x, 2, 1, NONE);
        noValue("device -1", x, -1, 1, NONE);
        for (int h = 3; h <= 20; h++) {
            due("HANDLE", x.attribute(0, 1, 1), h);
        }
        fill(x, 2);
        due("20 at most", x.attribute(0, 1, 1), NONE);
        due("ATTRIBUTES", x.device(0, 23), 20);
        due("the TAPE stays", x.byteOf(0, 4, 1), 2);
        no("HANDLE 0", x.set(0, 0));
        no("HANDLE 21", x.set(0, 21));
        no("device 1 has none", x.set(1, 1));
        no("device 2", x.set(2, 1));
        no("device -1", x.set(-1, 1));
        due("the TAPE stays", x.byteOf(0, 4, 1), 2);
        yes("set", x.set(0, 20));
        due("the TAPE is empty", x.byteOf(0, 4, 0), NONE);
        due("two bytes", x.value(0, 20, NONE), 2);
        due("byte 1", x.value(0, 20, 1), 2);
        fill(x, 41);
        no("41 bytes", x.set(0, 20));
        x.end(40);
        yes("40 bytes", x.set(0, 20));
        due("40 bytes", x.value(0, 20, NONE), 40);
        yes("no bytes", x.set(0, 20));
        due("no bytes", x.value(0, 20, NONE), 0);
    }

    // 25
    private static void mtu() {
        LowEnergy x = linked(2, 100);
        no("22", x.mtu(0, 22));
        no("65", x.mtu(0, 65));
        no("device 2", x.mtu(2, 30));
        no("device -1", x.mtu(-1, 30));
        yes("64", x.mtu(0, 64));
        yes("40", x.mtu(1, 40));
        due("its own one only", x.device(0, 17), 23);
        x.job(0, 0, 0, 0);
        x.tick(20);
        due("the lesser one", x.device(0, 17), 40);
        due("the lesser one", x.device(1, 17), 40);
        yes("23", x.mtu(0, 23));
        x.job(0, 0, 0, 0);
        x.tick(20);
        due("23", x.device(0, 17), 23);
        due("23", x.device(1, 17), 23);
        x.control(0, 2);
        x.mtu(0, 64);
        x.tick(20);
        due("23 without a link", x.device(0, 17), 23);
        link(x, 2, 100);
        x.job(1, 0, 0, 0);
        x.tick(20);
        due("own ones stay", x.device(0, 17), 40);
        due("own ones stay", x.device(1, 17), 40);
    }

    // 26
    private static void job() {
        LowEnergy w = new LowEnergy(A, B);
        no("no link", w.job(0, 0, 0, 0));
        LowEnergy x = linked(2, 100);
        no("device 2", x.job(2, 0, 0, 0));
        no("device -1", x.job(-1, 0, 0, 0));
        no("kind -1", x.job(0, -1, 0, 0));
        no("kind 7", x.job(0, 7, 0, 0));
        no("a -1", x.job(0, 0, -1, 0));
        no("a 65536", x.job(0, 0, 65536, 0));
        no("b -1", x.job(0, 0, 0, -1));
        no("b 65536", x.job(0, 0, 0, 65536));
        fill(x, 41);
        no("41 bytes", x.job(0, 5, 1, 0));
        no("41 bytes", x.job(0, 6, 1, 0));
        yes("of others the TAPE does not matter", x.job(0, 4, 65535, 65535));
        due("nor does it go", x.byteOf(0, 4, 40), 41);
        no("one is under way", x.job(0, 4, 1, 0));
        x.tick(20);
        x.end(40);
        yes("40 bytes", x.job(0, 5, 1, 0));
        due("the TAPE is empty", x.byteOf(0, 4, 0), NONE);
        LowEnergy y = linked(2, 100);
        for (int i = 0; i < 8; i++) {
            yes("send", y.send(0, 0, 1));
        }
        no("8 messages wait", y.job(0, 0, 0, 0));
    }

    // 27
    private static void send() {
        LowEnergy w = new LowEnergy(A, B);
        w.attribute(0, 1, 3);
        no("no link", w.send(0, 1, 1));
        LowEnergy x = new LowEnergy(A, B);
        fill(x, 30);
        x.attribute(0, 0x2A00, 1);
        x.attribute(1, 0x2A01, 2);
        x.attribute(1, 0x2A02, 1);
        link(x, 2, 100);
        drop(x, 0);
        drop(x, 1);
        no("device 2", x.send(2, 0, 1));
        no("device -1", x.send(-1, 0, 1));
        no("kind 3", x.send(0, 3, 1));
        no("kind -1", x.send(0, -1, 1));
        no("HANDLE -1", x.send(0, 0, -1));
        no("HANDLE 65536", x.send(0, 0, 65536));
        fill(x, 21);
        no("more than MTU - 3", x.send(0, 0, 1));
        due("the TAPE stays", x.byteOf(0, 4, 20), 21);
        no("no VALUE of its own", x.send(0, 1, 2));
        no("no VALUE of its own", x.send(0, 2, 0));
        yes("a 27 leaves the TAPE", x.send(0, 1, 1));
        due("the TAPE stays", x.byteOf(0, 4, 20), 21);
        x.end(20);
        yes("an 82", x.send(0, 0, 1));
        due("the TAPE is empty", x.byteOf(0, 4, 0), NONE);
        fill(x, 1);
        yes("one that can't be written", x.send(0, 0, 2));
        yes("none such", x.send(0, 0, 65535));
        yes("a 29", x.send(0, 2, 1));
        due("waits for a 30", x.device(0, 28), 1);
        no("while it waits", x.send(0, 2, 1));
        yes("a 27 may", x.send(0, 1, 1));
        x.tick(40);
        due("written", x.value(1, 1, NONE), 20);
        due("byte 19", x.value(1, 1, 19), 20);
        due("not written", x.value(1, 2, NONE), 0);
        dueCompletion("a 27", x, 1, 16, 1, 0, 0, 20, NONE, NONE, NONE, NONE, NONE, 1, 2, 3);
        dueCompletion("a 29", x, 1, 17, 1, 0, 0, 20, NONE, NONE, NONE, NONE, NONE, 1, 2, 3);
        dueCompletion("a 27", x, 1, 16, 1, 0, 0, 20);
        dueCompletion("a 30", x, 0, 18, 0, 0, 0, 0);
        due("does not wait any more", x.device(0, 28), 0);
        for (int i = 0; i < 8; i++) {
            yes("send " + i, x.send(1, 1, 1));
        }
        no("8 messages wait", x.send(1, 1, 1));
        no("8 messages wait", x.send(1, 0, 1));
        due("8", x.device(1, 10), 8);
        x.tick(2);
        due("a piece was taken of one with 27 bytes", x.device(1, 10), 7);
    }

    // 28, 29
    private static void completions() {
        LowEnergy x = linked(2, 100);
        due("device 2", x.completion(2, 0), NONE);
        due("device -1", x.completion(-1, 0), NONE);
        due("what -1", x.completion(0, -1), NONE);
        due("what 5", x.completion(0, 5), NONE);
        due("what 9", x.completion(0, 9), NONE);
        due("what 10", x.completion(0, 10), NONE);
        due("one is kept", x.device(0, 24), 1);
        no("device 2", x.take(2));
        no("device -1", x.take(-1));
        yes("take", x.take(0));
        no("none any more", x.take(0));
        due("none", x.completion(0, 0), NONE);
        x.features(1, 0xFF);
        for (int i = 0; i < 40; i++) {
            x.control(0, 1);
            x.tick(6);
        }
        due("32 are kept", x.device(0, 24), 32);
        due("more are lost", x.device(0, 25), 8);
        due("byte 0", x.completion(0, 10), 255);
        due("byte 7", x.completion(0, 17), 0);
        due("byte 8", x.completion(0, 18), NONE);
        due("far", x.completion(0, Integer.MAX_VALUE), NONE);
        x.take(0);
        x.control(0, 2);
        x.tick(10);
        due("room for one", x.device(0, 24), 32);
        for (int i = 0; i < 31; i++) {
            due("in order", x.completion(0, 0), 15);
            yes("take " + i, x.take(0));
        }
        dueCompletion("the last one", x, 0, 7, 22, 0, 0, 0);
        no("all are gone", x.take(0));
        LowEnergy y = new LowEnergy(A, B);
        for (int i = 0; i < 18; i++) {
            link(y, 2, 100);
            y.control(0, 2);
            y.tick(4);
        }
        due("32 are kept", y.device(1, 24), 32);
        due("4 are lost", y.device(1, 25), 4);
        for (int i = 0; i < 16; i++) {
            dueCompletion("connected", y, 1, 0, 5, 0, 0, 0);
            dueCompletion("DISCONNECTED", y, 1, 7, 19, 0, 0, 0);
        }
        no("all are gone", y.take(1));
    }
}
