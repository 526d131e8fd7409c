/** What runs between the devices are made of: the program and the oracle, and short ways to tell them things. */
class Runs {
    static final int NONE = -1;
    static final long A = 0x010203040506L;
    static final long B = 0x0A0B0C0D0E0FL;
    static final long ALL = 0x1FFFFFFFFFL;

    final Check check;
    final Both x;

    Runs(Check check) {
        this.check = check;
        x = new Both(check, A, B);
    }

    int seen(int device, int what) {
        x.look();
        return x.x.device(device, what);
    }

    void bytes(int... bytes) {
        x.end(0);
        int n = bytes.length;
        for (int i = 0; i < n; i += 20) {
            int[] w = new int[5];
            for (int k = 0; k < 20 && i + k < n; k++) {
                w[k / 4] |= bytes[i + k] << 24 - 8 * (k % 4);
            }
            x.feed(w[0], w[1], w[2], w[3], w[4]);
        }
        x.end(n);
    }

    static int[] run(int n) {
        int[] r = new int[n];
        for (int i = 0; i < n; i++) {
            r[i] = i + 1;
        }
        return r;
    }

    void attribute(int type, int rights, int... value) {
        bytes(value);
        x.attribute(1, type, rights);
    }

    void link(int interval, int timeout) {
        x.end(0);
        x.advertise(1, 5);
        x.connect(0, B, interval, timeout, 7, ALL);
        for (int i = 0; i < 30 && x.o.device(1, 0) != 5; i++) {
            x.tick(1);
        }
        check.due("CENTRAL", seen(0, 0), 4);
        check.due("PERIPHERAL", seen(1, 0), 5);
        drop(0);
        drop(1);
    }

    void drop(int d) {
        for (int i = 0; i < 33; i++) {
            x.take(d);
        }
    }

    /** The first completion: its kind, its three numbers, how many bytes it has. */
    void came(int d, int... want) {
        x.lookClosely();
        for (int i = 0; i < want.length; i++) {
            check.due("completion(" + d + ", " + i + ")", x.x.completion(d, i), want[i]);
        }
        x.take(d);
    }

    void nothingElse(int d) {
        check.due("nothing else came to " + d, x.x.completion(d, 0), NONE);
    }

    int[] nextPacket(int d) {
        return Both.plain(x.peek(d, 60));
    }

    /** The next packet of a device goes with some bytes of its PAYLOAD changed, and is GOOD still. */
    void change(int d, int... placesAndBytes) {
        int[] is = nextPacket(d);
        int[] shall = is.clone();
        for (int i = 0; i < placesAndBytes.length; i += 2) {
            shall[2 + placesAndBytes[i]] = placesAndBytes[i + 1];
        }
        check.due("it can be forged", x.forge(d, is, shall), true);
    }

    void secure() {
        x.allow(1, 123456);
        x.pair(0, 123456);
        x.tick(60);
        came(0, 10, 0, 0, 0, 0);
        came(1, 10, 0, 0, 0, 0);
        x.encrypt(0);
        x.tick(30);
        came(0, 12, 0, 0, 0, 0);
        came(1, 12, 0, 0, 0, 0);
    }
}
