import java.util.ArrayList;
import java.util.List;
import java.util.NoSuchElementException;

/**
 * "What is not as told here is refused: false, NONE, nothing changed (the TAPE too)." In many situations each call
 * that is to be refused is made on one of two objects that are alike: it answers so, nothing that is to be seen
 * changes, and both objects go on alike, so that nothing that is not to be seen has changed either.
 */
public final class RefusalsTest {
    private static final Check CHECK = new Check("RefusalsTest");
    private static final int NONE = -1;
    private static final long A = 0x112233445566L;
    private static final long B = 0xAABBCCDDEEFFL;
    private static final long ALL = 0x1FFFFFFFFFL;
    private static final int[] NO_DEVICE = {-1, 2, Integer.MIN_VALUE, Integer.MAX_VALUE};

    /** A call, with its answer: 1 and 0 of a boolean, NONE if it throws. */
    private interface Act {
        long on(LowEnergy x);
    }

    private static final class Call {
        final String text;
        final Act act;
        final long due;

        Call(String text, Act act, long due) {
            this.text = text;
            this.act = act;
            this.due = due;
        }
    }

    private final List<Call> calls = new ArrayList<>();

    private interface Yes {
        boolean on(LowEnergy x);
    }

    private RefusalsTest no(String text, Yes call) {
        calls.add(new Call(text, x -> call.on(x) ? 1 : 0, 0));
        return this;
    }

    private RefusalsTest none(String text, Act call) {
        calls.add(new Call(text, call, NONE));
        return this;
    }

    private RefusalsTest thrown(String text, Act call) {
        calls.add(new Call(text, x -> {
            try {
                return Math.max(call.on(x), 0);
            } catch (NoSuchElementException | IllegalArgumentException e) {
                return NONE;
            }
        }, NONE));
        return this;
    }

    // ---- what is to be seen ----

    private static List<Long> view(LowEnergy x) {
        List<Long> all = new ArrayList<>();
        for (int d = 0; d < 2; d++) {
            for (int w = 0; w <= 28; w++) {
                all.add((long) x.device(d, w));
            }
            for (int w = 0; w < 3; w++) {
                all.add(x.number(d, w));
            }
            for (int w = 0; w < 4; w++) {
                for (int i = 0; i < 20; i++) {
                    all.add((long) x.byteOf(d, w, i));
                }
            }
            for (int w = 0; w < 50; w++) {
                all.add((long) x.completion(d, w));
            }
            for (int h = 1; h <= x.device(d, 23); h++) {
                for (int i = NONE; i < x.value(d, h, NONE); i++) {
                    all.add((long) x.value(d, h, i));
                }
            }
        }
        for (int i = 0; i < 100; i++) {
            all.add((long) x.byteOf(0, 4, i));
        }
        return all;
    }

    private static List<Long> air(LowEnergy x) {
        List<Long> all = new ArrayList<>();
        for (int k = 0; k < 8; k++) {
            try {
                int n = x.air(k, NONE);
                for (int i = -2; i < n; i++) {
                    all.add((long) x.air(k, i));
                }
            } catch (NoSuchElementException e) {
                return all;
            }
        }
        return all;
    }

    private static List<Long> all(LowEnergy x) {
        List<Long> all = view(x);
        all.addAll(air(x));
        return all;
    }

    // ---- how it goes on ----

    private static boolean alike(LowEnergy x, LowEnergy y, int ticks) {
        for (int i = 0; i < ticks; i++) {
            if (x.tick(1) != y.tick(1) || !air(x).equals(air(y))) {
                return false;
            }
        }
        return view(x).equals(view(y));
    }

    private static boolean same(LowEnergy x, LowEnergy y, Yes call) {
        return call.on(x) == call.on(y);
    }

    /** Calls that bring to light what is not to be seen: DRAWS, noise, passkeys, MTUS, FEATURES, what waits. */
    private static boolean goOnAlike(LowEnergy x, LowEnergy y) {
        boolean yes = alike(x, y, 30);
        for (int d = 0; d < 2; d++) {
            int who = d;
            yes &= same(x, y, q -> q.stop(who));
        }
        yes &= same(x, y, q -> q.end(0) == 0);
        yes &= same(x, y, q -> q.advertise(1, 5));
        yes &= same(x, y, q -> q.connect(0, B, 2, 60, 7, ALL));
        yes &= alike(x, y, 12);
        yes &= same(x, y, q -> q.control(0, 1)) && same(x, y, q -> q.control(1, 1));
        yes &= same(x, y, q -> q.job(0, 0, 0, 0)) && alike(x, y, 12);
        yes &= same(x, y, q -> q.job(1, 0, 0, 0)) && alike(x, y, 12);
        yes &= same(x, y, q -> q.pair(0, 4711)) && alike(x, y, 16);
        yes &= same(x, y, q -> q.encrypt(0)) && alike(x, y, 12);
        yes &= same(x, y, q -> q.control(0, 0)) && same(x, y, q -> q.map(0, 5)) && alike(x, y, 24);
        for (int i = 0; i < 33; i++) {
            yes &= view(x).equals(view(y)) && same(x, y, q -> q.take(0)) && same(x, y, q -> q.take(1));
        }
        return yes;
    }

    // ---- situations ----

    private interface Lead {
        void lead(LowEnergy x);
    }

    private static LowEnergy made(Lead lead) {
        LowEnergy x = new LowEnergy(A, B);
        lead.lead(x);
        return x;
    }

    private void in(String situation, Lead lead) {
        for (Call c : calls) {
            LowEnergy x = made(lead);
            List<Long> before = all(x);
            String text = situation + ": " + c.text;
            CHECK.due(text, c.act.on(x), c.due);
            CHECK.due(text + " leaves all that is seen", all(x).equals(before), true);
            CHECK.due(text + " leaves all that is not seen", goOnAlike(x, made(lead)), true);
        }
    }

    /** A run that was accepted is another one: else goOnAlike could not tell anything. */
    private static void mustShow(String what, Lead lead, Yes call) {
        LowEnergy x = made(lead);
        CHECK.due(what + " is accepted", call.on(x), true);
        LowEnergy y = made(lead);
        CHECK.due(what + " shows", goOnAlike(x, y), false);
    }

    private static void fill(LowEnergy x, int n) {
        x.end(0);
        for (int i = 0; i < n; i += 20) {
            x.feed(0x01020304 + i, 0x05060708, 0x090A0B0C, 0x0D0E0F10, 0x11121314);
        }
        x.end(n);
    }

    private static void attribute(LowEnergy x, int d, int type, int n) {
        fill(x, n);
        x.attribute(d, type, 3);
    }

    private static void hidden(LowEnergy x) {
        x.seed(0, 99);
        x.seed(1, 77);
        x.allow(0, 4711);
        x.allow(1, 4711);
        x.mtu(0, 50);
        x.mtu(1, 30);
        x.features(0, 0x0102030405060708L);
        x.features(1, 0x1112131415161718L);
    }

    private static void link(LowEnergy x) {
        hidden(x);
        attribute(x, 0, 0x2A00, 7);
        attribute(x, 1, 0x2A00, 40);
        attribute(x, 1, 0x2800, 2);
        x.advertise(1, 5);
        x.connect(0, B, 2, 60, 7, ALL);
        x.tick(1);
    }

    private static void keys(LowEnergy x) {
        link(x);
        x.pair(0, 4711);
        x.tick(16);
    }

    private static void times(int n, Runnable r) {
        for (int i = 0; i < n; i++) {
            r.run();
        }
    }

    // ---- calls that are refused whatever the situation is ----

    private RefusalsTest ofNoDevice() {
        for (int d : NO_DEVICE) {
            no("seed of " + d, x -> x.seed(d, 1));
            no("advertise of " + d, x -> x.advertise(d, 5));
            no("scan of " + d, x -> x.scan(d));
            no("connect of " + d, x -> x.connect(d, B, 2, 10, 5, 3));
            no("stop of " + d, x -> x.stop(d));
            no("noise of " + d, x -> x.noise(d, 0));
            no("lose of " + d, x -> x.lose(d, 0));
            none("device of " + d, x -> x.device(d, 0));
            none("number of " + d, x -> x.number(d, 2));
            none("byteOf " + d, x -> x.byteOf(d, 4, 0));
            no("control of " + d, x -> x.control(d, 1));
            no("map of " + d, x -> x.map(d, 3));
            no("encrypt of " + d, x -> x.encrypt(d));
            no("pair of " + d, x -> x.pair(d, 0));
            no("allow of " + d, x -> x.allow(d, 0));
            no("features of " + d, x -> x.features(d, 0));
            none("attribute of " + d, x -> x.attribute(d, 1, 1));
            no("set of " + d, x -> x.set(d, 1));
            thrown("value of " + d, x -> x.value(d, 1, NONE));
            no("mtu of " + d, x -> x.mtu(d, 23));
            no("job of " + d, x -> x.job(d, 0, 0, 0));
            no("send of " + d, x -> x.send(d, 0, 0));
            none("completion of " + d, x -> x.completion(d, 0));
            no("take of " + d, x -> x.take(d));
        }
        return this;
    }

    private RefusalsTest beyondBounds(int d) {
        for (int n : new int[] {-1, 101, Integer.MIN_VALUE, Integer.MAX_VALUE}) {
            none("end(" + n + ")", x -> x.end(n));
            no("lose(" + d + ", " + n + ")", x -> x.lose(d, n));
        }
        for (int n : new int[] {4, 0, -5, 1001, Integer.MIN_VALUE, Integer.MAX_VALUE}) {
            no("advertise(" + d + ", " + n + ")", x -> x.advertise(d, n));
        }
        for (int n : new int[] {0, -1, 1001, Integer.MIN_VALUE, Integer.MAX_VALUE}) {
            thrown("tick(" + n + ")", x -> x.tick(n));
        }
        for (int n : new int[] {-1, 320, Integer.MIN_VALUE, Integer.MAX_VALUE}) {
            no("noise(" + d + ", " + n + ")", x -> x.noise(d, n));
        }
        for (int n : new int[] {-1, 3, Integer.MIN_VALUE, Integer.MAX_VALUE}) {
            no("control(" + d + ", " + n + ")", x -> x.control(d, n));
            no("send(" + d + ", " + n + ", 1)", x -> x.send(d, n, 1));
        }
        for (int n : new int[] {-2, 1000000, Integer.MIN_VALUE, Integer.MAX_VALUE}) {
            no("pair(" + d + ", " + n + ")", x -> x.pair(d, n));
            no("allow(" + d + ", " + n + ")", x -> x.allow(d, n));
        }
        no("pair(" + d + ", -1)", x -> x.pair(d, NONE));
        for (int n : new int[] {22, 65, 0, -1, Integer.MIN_VALUE, Integer.MAX_VALUE}) {
            no("mtu(" + d + ", " + n + ")", x -> x.mtu(d, n));
        }
        for (int n : new int[] {-1, 65536, Integer.MIN_VALUE, Integer.MAX_VALUE}) {
            none("attribute(" + d + ", " + n + ", 1)", x -> x.attribute(d, n, 1));
            no("job(" + d + ", 3, " + n + ", 1)", x -> x.job(d, 3, n, 1));
            no("job(" + d + ", 3, 1, " + n + ")", x -> x.job(d, 3, 1, n));
            no("job(" + d + ", 5, " + n + ", 1)", x -> x.job(d, 5, n, 1));
            no("job(" + d + ", 6, 1, " + n + ")", x -> x.job(d, 6, 1, n));
            no("send(" + d + ", 0, " + n + ")", x -> x.send(d, 0, n));
        }
        for (int n : new int[] {-1, 8, Integer.MIN_VALUE, Integer.MAX_VALUE}) {
            none("attribute(" + d + ", 1, " + n + ")", x -> x.attribute(d, 1, n));
        }
        for (int n : new int[] {-1, 7, Integer.MIN_VALUE, Integer.MAX_VALUE}) {
            no("job(" + d + ", " + n + ", 1, 1)", x -> x.job(d, n, 1, 1));
        }
        for (int n : new int[] {0, -1, 21, 65536, Integer.MIN_VALUE, Integer.MAX_VALUE}) {
            no("set(" + d + ", " + n + ")", x -> x.set(d, n));
            thrown("value(" + d + ", " + n + ", -1)", x -> x.value(d, n, NONE));
            no("send(" + d + ", 1, " + n + ")", x -> x.send(d, 1, n));
            no("send(" + d + ", 2, " + n + ")", x -> x.send(d, 2, n));
        }
        return this;
    }

    private RefusalsTest connectBeyondBounds(int d) {
        for (int n : new int[] {1, 51, 0, -1, 65538, Integer.MIN_VALUE, Integer.MAX_VALUE}) {
            no("connect by INTERVAL " + n, x -> x.connect(d, B, n, 10, 5, 3));
        }
        for (int n : new int[] {9, 2001, 0, -1, Integer.MIN_VALUE, Integer.MAX_VALUE}) {
            no("connect by TIMEOUT " + n, x -> x.connect(d, B, 2, n, 5, 3));
        }
        for (int n : new int[] {4, 17, 0, -1, 261, Integer.MIN_VALUE, Integer.MAX_VALUE}) {
            no("connect by HOP " + n, x -> x.connect(d, B, 2, 10, n, 3));
        }
        for (long m : new long[] {0, 1, 1L << 36, 1L << 37, 3L << 36, 3L << 37, 3 | 1L << 63, -1, Long.MIN_VALUE}) {
            no("connect by MAP " + m, x -> x.connect(d, B, 2, 10, 5, m));
            no("map(" + d + ", " + m + ")", x -> x.map(d, m));
        }
        return this;
    }

    private RefusalsTest whatIsNotThere(int d) {
        for (int w : new int[] {-1, 29, Integer.MIN_VALUE, Integer.MAX_VALUE}) {
            none("device(" + d + ", " + w + ")", x -> x.device(d, w));
        }
        for (int w : new int[] {-1, 3, Integer.MIN_VALUE, Integer.MAX_VALUE}) {
            none("number(" + d + ", " + w + ")", x -> x.number(d, w));
        }
        for (int w : new int[] {-1, 5, Integer.MIN_VALUE, Integer.MAX_VALUE}) {
            none("byteOf(" + d + ", " + w + ", 0)", x -> x.byteOf(d, w, 0));
        }
        for (int i : new int[] {-1, 100, Integer.MIN_VALUE, Integer.MAX_VALUE}) {
            for (int w = 0; w < 5; w++) {
                int what = w;
                none("byteOf(" + d + ", " + w + ", " + i + ")", x -> x.byteOf(d, what, i));
            }
        }
        for (int w : new int[] {-1, 5, 9, 50, Integer.MIN_VALUE, Integer.MAX_VALUE}) {
            none("completion(" + d + ", " + w + ")", x -> x.completion(d, w));
        }
        for (int i : new int[] {-2, 40, Integer.MIN_VALUE, Integer.MAX_VALUE}) {
            thrown("value(" + d + ", 1, " + i + ")", x -> x.value(d, 1, i));
        }
        for (int i : new int[] {-1, 8, Integer.MIN_VALUE, Integer.MAX_VALUE}) {
            thrown("air(" + i + ", -1)", x -> x.air(i, NONE));
        }
        for (int i : new int[] {-3, 40, Integer.MIN_VALUE, Integer.MAX_VALUE}) {
            thrown("air(0, " + i + ")", x -> x.air(0, i));
        }
        return this;
    }

    private static void everywhere(String situation, Lead lead) {
        RefusalsTest t = new RefusalsTest().ofNoDevice();
        for (int d = 0; d < 2; d++) {
            t.beyondBounds(d).connectBeyondBounds(d).whatIsNotThere(d);
        }
        t.in(situation, lead);
    }

    // ---- calls that one situation refuses ----

    private RefusalsTest allOfALink(int d) {
        for (int w = 0; w < 3; w++) {
            int what = w;
            no("control(" + d + ", " + w + ")", x -> x.control(d, what));
            no("send(" + d + ", " + w + ", 1)", x -> x.send(d, what, 1));
        }
        return no("map", x -> x.map(d, 3)).no("encrypt", x -> x.encrypt(d)).no("pair", x -> x.pair(d, 0)).jobs(d);
    }

    private RefusalsTest jobs(int d) {
        for (int k = 0; k <= 6; k++) {
            int kind = k;
            no("job(" + d + ", " + k + ", 1, 9)", x -> x.job(d, kind, 1, 9));
        }
        return this;
    }

    private RefusalsTest beginnings(int d) {
        no("advertise(" + d + ", 5)", x -> x.advertise(d, 5));
        no("scan(" + d + ")", x -> x.scan(d));
        return no("connect(" + d + ", ..)", x -> x.connect(d, B, 2, 10, 5, 3));
    }

    private static void ofStates() {
        for (int n : new int[] {0, 3}) {
            Lead fresh = x -> {
                hidden(x);
                attribute(x, 0, 1, 5);
                attribute(x, 1, 1, 5);
                fill(x, n);
            };
            for (int d = 0; d < 2; d++) {
                int who = d;
                new RefusalsTest().allOfALink(d).no("stop", x -> x.stop(who)).no("take", x -> x.take(who))
                        .in("STANDBY, TAPE of " + n, fresh);
                new RefusalsTest().beginnings(d).allOfALink(d).in("ADVERTISING, TAPE of " + n, x -> {
                    fresh.lead(x);
                    x.end(0);
                    x.advertise(who, 9);
                    fill(x, n);
                    x.tick(4);
                });
                new RefusalsTest().beginnings(d).allOfALink(d).in("SCANNING, TAPE of " + n, x -> {
                    fresh.lead(x);
                    x.scan(who);
                });
                new RefusalsTest().beginnings(d).allOfALink(d).in("INITIATING, TAPE of " + n, x -> {
                    fresh.lead(x);
                    x.connect(who, A ^ B, 3, 100, 9, 7);
                });
                new RefusalsTest().beginnings(d).no("stop", x -> x.stop(who)).in("in a link, TAPE of " + n, x -> {
                    link(x);
                    fill(x, n);
                });
            }
        }
        new RefusalsTest().no("map", x -> x.map(1, 3)).no("encrypt", x -> x.encrypt(1)).no("pair", x -> x.pair(1, 1))
                .in("PERIPHERAL", RefusalsTest::keys);
        new RefusalsTest().no("encrypt", x -> x.encrypt(0)).in("CENTRAL without a KEY", RefusalsTest::link);
    }

    private static void ofTapes() {
        for (int n : new int[] {81, 90, 99, 100}) {
            new RefusalsTest().none("feed", x -> x.feed(1, 2, 3, 4, 5)).none("end", x -> x.end(n + 1)).in("TAPE of " + n, x -> {
                hidden(x);
                fill(x, n);
            });
        }
        new RefusalsTest().none("end(1)", x -> x.end(1)).none("end(-1)", x -> x.end(-1)).in("no TAPE", RefusalsTest::hidden);
        for (int n : new int[] {21, 41, 100}) {
            for (int d = 0; d < 2; d++) {
                int who = d;
                new RefusalsTest().no("advertise", x -> x.advertise(who, 5)).in("TAPE of " + n, x -> {
                    hidden(x);
                    fill(x, n);
                });
                new RefusalsTest().no("send", x -> x.send(who, 0, 1)).in("MTU 23, TAPE of " + n, x -> {
                    link(x);
                    fill(x, n);
                });
            }
        }
        for (int n : new int[] {41, 60, 100}) {
            for (int d = 0; d < 2; d++) {
                int who = d;
                new RefusalsTest().none("attribute", x -> x.attribute(who, 1, 1)).no("set", x -> x.set(who, 1))
                        .no("job 5", x -> x.job(who, 5, 1, 0)).no("job 6", x -> x.job(who, 6, 1, 0))
                        .in("in a link, TAPE of " + n, x -> {
                            link(x);
                            fill(x, n);
                        });
            }
        }
        for (int d = 0; d < 2; d++) {
            int who = d;
            new RefusalsTest().no("send", x -> x.send(who, 0, 1)).in("MTU 30, TAPE of 28", x -> {
                link(x);
                x.job(0, 0, 0, 0);
                x.tick(12);
                fill(x, 28);
            });
        }
    }

    private static void ofWhatIsFull() {
        for (int d = 0; d < 2; d++) {
            int who = d;
            new RefusalsTest().none("attribute", x -> x.attribute(who, 1, 1)).no("set of 21", x -> x.set(who, 21))
                    .in("20 ATTRIBUTES", x -> {
                        hidden(x);
                        times(20, () -> attribute(x, who, 0x2A00, 3));
                        fill(x, 4);
                    });
            new RefusalsTest().no("noise", x -> x.noise(who, 7)).no("noise", x -> x.noise(who, 319)).in("64 bits of noise", x -> {
                link(x);
                times(32, () -> {
                    x.noise(who, 50);
                    x.noise(who, 319);
                });
            });
            RefusalsTest five = new RefusalsTest();
            for (int w = 0; w < 3; w++) {
                int what = w;
                five.no("control(" + d + ", " + w + ")", x -> x.control(who, what));
            }
            five.no("map", x -> x.map(who, 3)).no("encrypt", x -> x.encrypt(who)).in("5 CONTROL wait", x -> {
                keys(x);
                times(5, () -> x.control(who, 1));
            });
            new RefusalsTest().jobs(d).no("send 0", x -> x.send(who, 0, 1)).no("send 1", x -> x.send(who, 1, 1))
                    .no("send 2", x -> x.send(who, 2, 1)).no("pair", x -> x.pair(who, 4711)).in("8 messages wait", x -> {
                        link(x);
                        times(8, () -> x.send(who, 1, 1));
                        fill(x, 3);
                    });
        }
    }

    private static void ofWhatIsUnderWay() {
        for (int d = 0; d < 2; d++) {
            int who = d;
            new RefusalsTest().jobs(d).in("a JOB is under way", x -> {
                link(x);
                fill(x, 3);
                x.job(who, 4, 1, 0);
                x.tick(2);
            });
            new RefusalsTest().no("send 2", x -> x.send(who, 2, 1)).in("it waits for a 30", x -> {
                link(x);
                x.send(who, 2, 1);
            });
            new RefusalsTest().no("a 12", x -> x.control(who, 0)).in("one was sent", x -> {
                link(x);
                x.control(who, 0);
                x.tick(4);
            });
            new RefusalsTest().no("a 12", x -> x.control(who, 0)).in("one was sent as an answer", x -> {
                link(x);
                x.control(1 - who, 0);
                x.tick(8);
            });
        }
        new RefusalsTest().no("map", x -> x.map(0, 3)).in("a MAP waits", x -> {
            link(x);
            x.map(0, 6);
            x.tick(4);
        });
        for (int t = 0; t < 5; t += 2) {
            int ticks = t + 1;
            new RefusalsTest().no("pair", x -> x.pair(0, 4711)).in("pairing's step is not 0, " + ticks, x -> {
                link(x);
                x.pair(0, 4711);
                x.tick(ticks);
            });
        }
        for (int d = 0; d < 2; d++) {
            int who = d;
            RefusalsTest held = new RefusalsTest();
            for (int w = 0; w < 3; w++) {
                int what = w;
                held.no("control(" + d + ", " + w + ")", x -> x.control(who, what));
            }
            held.no("map", x -> x.map(who, 3)).no("encrypt", x -> x.encrypt(who)).in("HELD", x -> {
                keys(x);
                x.encrypt(0);
                x.tick(2);
            });
        }
        new RefusalsTest().no("encrypt", x -> x.encrypt(0)).in("SECURE", x -> {
            keys(x);
            x.encrypt(0);
            x.tick(12);
        });
    }

    private static void whatGoOnAlikeTells() {
        Lead lead = RefusalsTest::hidden;
        for (int d = 0; d < 2; d++) {
            int who = d;
            mustShow("seed", lead, x -> x.seed(who, 5));
            mustShow("noise", RefusalsTest::link, x -> x.noise(who, 50));
            mustShow("lose", RefusalsTest::link, x -> x.lose(who, 1));
            mustShow("features", RefusalsTest::link, x -> x.features(who, 3));
            mustShow("mtu", RefusalsTest::link, x -> x.mtu(who, 29));
            mustShow("control", RefusalsTest::link, x -> x.control(who, 0));
            mustShow("send", RefusalsTest::link, x -> x.send(who, 1, 1));
        }
        mustShow("allow", RefusalsTest::link, x -> x.allow(1, 4712));
        mustShow("map", RefusalsTest::link, x -> x.map(0, 3));
        mustShow("encrypt", RefusalsTest::keys, x -> x.encrypt(0));
    }

    public static void main(String[] args) {
        everywhere("a new object", x -> fill(x, 5));
        everywhere("ADVERTISING and SCANNING", x -> {
            hidden(x);
            x.advertise(0, 5);
            x.scan(1);
            x.noise(0, 40);
            x.tick(7);
            fill(x, 5);
        });
        everywhere("INITIATING", x -> {
            hidden(x);
            x.connect(0, B, 3, 30, 7, ALL);
            fill(x, 5);
        });
        everywhere("a link", x -> {
            link(x);
            x.noise(0, 300);
            x.tick(3);
            fill(x, 5);
        });
        everywhere("a SECURE link", x -> {
            keys(x);
            x.encrypt(0);
            x.tick(12);
            fill(x, 5);
        });
        ofStates();
        ofTapes();
        ofWhatIsFull();
        ofWhatIsUnderWay();
        whatGoOnAlikeTells();
        CHECK.end();
    }
}
