import java.util.Random;

/** Long runs of calls drawn by fixed seeds, on the program and the oracle side by side. */
public final class RandomRunsTest {
    private static final int[] OPS = {0, 1, 2, 3, 4, 5, 6, 7, 8, 9, 10, 11, 12, 13, 16, 17, 18, 19, 22, 23, 24, 25, 27, 29,
        30, 64, 82, 255};
    private static final int[] TYPES = {0x2800, 0x2801, 0x2803, 0x2A00, 0x2800};

    private final Random r;
    private final Both both;
    private final int[] kinds;
    private final boolean forging;

    private RandomRunsTest(Check check, long seed, int[] kinds) {
        r = new Random(seed);
        both = new Both(check, r.nextLong(), r.nextLong());
        this.kinds = kinds;
        forging = r.nextInt(2) == 0;
    }

    public static void main(String[] args) {
        int runs = args.length > 0 ? Integer.parseInt(args[0]) : 600;
        long base = args.length > 1 ? Long.parseLong(args[1]) : 1;
        Check check = new Check("RandomRunsTest");
        int[] kinds = new int[64];
        for (int i = 0; i < runs && check.wrong() == 0; i++) {
            RandomRunsTest run = new RandomRunsTest(check, base * 100000 + i, kinds);
            run.go();
            if (check.wrong() != 0) {
                System.out.println("in the run of seed " + (base * 100000 + i) + ":");
                run.both.texts.forEach(System.out::println);
            }
        }
        StringBuilder seen = new StringBuilder();
        for (int k = 0; k < 20; k++) {
            seen.append(' ').append(k).append(':').append(kinds[k]);
            check.due("completions of kind " + k + " seen", kinds[k] > 0, true);
        }
        System.out.println("completions seen:" + seen);
        check.end();
    }

    private int pick(int... of) {
        return of[r.nextInt(of.length)];
    }

    private void fill(int n) {
        both.end(0);
        for (int i = 0; i < n; i += 20) {
            both.feed(r.nextInt(), r.nextInt(), r.nextInt(), r.nextInt(), r.nextInt());
        }
        both.end(n);
    }

    private void addAttribute(int d) {
        int type = pick(TYPES);
        if (type == 0x2800 || type == 0x2801) {
            both.end(0);
            both.feed(pick(0x0A180000, 0x0F180000), 0, 0, 0, 0);
            both.end(pick(0, 2, 2, 2, 16));
        } else {
            fill(pick(0, 1, 5, 5, 18, 19, 20, 22, 40, r.nextInt(41)));
        }
        both.attribute(d, type, pick(1, 1, 1, 3, 3, 7, 5, r.nextInt(8)));
    }

    private long randomMap() {
        long m = r.nextInt(3) == 0 ? 3L << r.nextInt(36) : r.nextLong() & 0x1FFFFFFFFFL;
        return r.nextInt(20) == 0 ? r.nextLong() : m;
    }

    private void linkUp() {
        linkUp(r.nextInt(2));
    }

    /** One that was PERIPHERAL gets a KEY, of which the other one never hears; then it is CENTRAL. */
    private void pairByHalf() {
        int p = both.o.dev[0].state == 5 ? 0 : 1;
        both.allow(p, 4711);
        both.pair(1 - p, 4711);
        for (int i = 0; i < 200 && both.o.dev[1 - p].s.step != 3; i++) {
            both.tick(1);
        }
        both.lose(p, 100);
        both.tick(300);
        both.lose(p, 0);
        linkUp(p);
        both.encrypt(p);
        both.look();
    }

    private void linkUp(int c) {
        both.stop(0);
        both.stop(1);
        fill(r.nextInt(21));
        both.advertise(1 - c, 5 + r.nextInt(10));
        both.end(0);
        both.connect(c, both.o.dev[1 - c].address, 2 + r.nextInt(6), 30 + r.nextInt(200), 5 + r.nextInt(12), randomMap());
        both.tick(20);
    }

    private void go() {
        int attributes = r.nextInt(18);
        for (int i = 0; i < attributes; i++) {
            addAttribute(r.nextInt(4) == 0 ? 0 : 1);
        }
        both.seed(0, r.nextInt());
        both.seed(1, r.nextInt());
        linkUp();
        if (r.nextInt(6) == 0) {
            pairByHalf();
        }
        for (int i = 0; i < 260; i++) {
            oneCall();
            both.look();
            if (i % 20 == 0) {
                both.lookClosely();
            }
            if (both.check.wrong() != 0) {
                return;
            }
        }
        both.lookClosely();
    }

    private void oneCall() {
        int d = r.nextInt(60) == 0 ? pick(-1, 2, 7) : r.nextInt(2);
        int choice = r.nextInt(100);
        if (choice < 34) {
            both.tick(r.nextInt(100) == 0 ? pick(0, -1, 1001, 300, 1000) : r.nextInt(6) == 0 ? 40 : 1 + r.nextInt(9));
        } else if (choice < 50) {
            ask(d);
        } else if (choice < 68) {
            takeAll(d);
        } else if (choice < 78) {
            disturb(d);
        } else if (choice < 90) {
            govern(d);
        } else {
            prepare(d);
        }
    }

    private void ask(int d) {
        if (r.nextInt(4) == 0) {
            int kind = pick(0, 1, 2, -1 + r.nextInt(5));
            if (kind == 0) {
                fill(pick(0, 5, 20, 20, r.nextInt(62)));
            }
            both.send(d, kind, pick(1, 2, 3, r.nextInt(22), 65535, 65536, -1));
            return;
        }
        int kind = r.nextInt(40) == 0 ? pick(-1, 7) : r.nextInt(7);
        if (kind == 5) {
            fill(pick(0, 5, 20, 21, 40, 40, r.nextInt(43)));
        } else if (kind == 6) {
            both.end(0);
            both.feed(pick(0x0A180000, 0x0F180000), 0, 0, 0, 0);
            both.end(pick(0, 2, 2, 2, 16, 20));
        }
        int a = pick(1, 1, r.nextInt(21), r.nextInt(21), r.nextInt(21), r.nextInt(70000) - 1000);
        both.job(d, kind, a, pick(65535, 65535, 65535, r.nextInt(21), r.nextInt(70000) - 1000));
    }

    private void takeAll(int d) {
        int n = pick(1, 1, 40);
        for (int i = 0; i < n && d >= 0 && d < 2 && both.o.device(d, 24) > 0; i++) {
            kinds[both.x.completion(d, 0)]++;
            both.look();
            both.take(d);
        }
        both.take(d);
    }

    private void disturb(int d) {
        int way = r.nextInt(10);
        if (way < 2) {
            both.lose(d, pick(0, 1, 1, 2, 3, 5, 101, -1, r.nextInt(30)));
        } else if (way < 4) {
            both.noise(d, pick(r.nextInt(340) - 10, 32 + r.nextInt(100)));
        } else if (way < 5 && r.nextInt(8) == 0) {
            for (int i = 0; i < 66; i++) {
                both.noise(d, r.nextInt(320));
            }
        } else if (forging && d >= 0 && d < 2 && both.o.dev[d].noise.isEmpty()) {
            forgeNext(d);
        }
    }

    private void forgeNext(int d) {
        Oracle.Packet p = both.peek(d, 12);
        if (p == null) {
            return;
        }
        int[] is = Both.plain(p);
        int[] shall = is.clone();
        int way = r.nextInt(8);
        if (way == 0) {
            shall[0] ^= 1 << r.nextInt(8);
        } else if (way == 1) {
            shall[0] = shall[0] & 252 | r.nextInt(4);
        } else if (is.length > 2 && way < 4) {
            shall[2] = pick(OPS);
        } else if (is.length > 6 && way < 6) {
            shall[6] = pick(OPS);
        } else if (is.length > 2) {
            shall[2 + r.nextInt(is.length - 2)] = pick(0, 1, 10, 255, r.nextInt(256));
        }
        both.forge(d, is, shall);
    }

    private void govern(int d) {
        switch (r.nextInt(9)) {
            case 0: case 1:
                both.control(d, r.nextInt(10) == 0 ? pick(-1, 2, 2, 3) : r.nextInt(2));
                break;
            case 2:
                both.map(d, randomMap());
                break;
            case 3: case 4:
                both.encrypt(d);
                break;
            case 5: case 6:
                both.pair(d, pick(123456, 123456, 123456, 0, 999999, 1000000, -1));
                break;
            default:
                both.allow(d, pick(123456, 123456, 123456, 0, 999999, 1000000, -1, -2));
                break;
        }
    }

    private void prepare(int d) {
        switch (r.nextInt(12)) {
            case 0: both.seed(d, r.nextInt()); break;
            case 1: both.features(d, r.nextLong()); break;
            case 2: case 3: both.mtu(d, pick(22, 23, 30, 41, 64, 65, 23 + r.nextInt(42))); break;
            case 4: addAttribute(d); break;
            case 5: fill(pick(0, 10, 40, 41, r.nextInt(101))); both.set(d, r.nextInt(22)); break;
            case 6: both.advertise(d, pick(4, 5, 20, 1000, 1001)); break;
            case 7: both.scan(d); break;
            case 8: both.stop(d); break;
            case 9: both.end(r.nextInt(110) - 5); break;
            case 10: both.feed(r.nextInt(), r.nextInt(), r.nextInt(), r.nextInt(), r.nextInt()); break;
            default: linkUp(); break;
        }
    }
}
