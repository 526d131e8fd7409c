/**
 * The boundary cases that parts 1 to 8 of the document name, sentence by sentence: just inside a bound and just
 * outside it, what is empty, what is full, what goes round. (Refused calls: RefusalsTest; arguments: PromisesTest.)
 */
public final class BoundsTest extends Runs {
    private static final Check CHECK = new Check("BoundsTest");

    private BoundsTest() {
        super(CHECK);
    }

    private static void due(String what, long got, long want) {
        CHECK.due(what, got, want);
    }

    public static void main(String[] args) {
        partOne();
        partTwo();
        partThree();
        partFour();
        partFive();
        partSix();
        partSeven();
        partEight();
        CHECK.end();
    }

    // ---- short ways ----

    private static BoundsTest linked(int interval, int timeout) {
        BoundsTest t = new BoundsTest();
        t.link(interval, timeout);
        return t;
    }

    /** A link of MTU m, the devices' own ones being m, too. */
    private static BoundsTest linkedByMtu(int m, int[]... values) {
        BoundsTest t = new BoundsTest();
        t.x.mtu(0, m);
        t.x.mtu(1, m);
        for (int[] v : values) {
            t.attribute(0x2A00, 3, v);
        }
        t.link(2, 400);
        t.agree();
        due("MTU", t.seen(1, 17), m);
        return t;
    }

    private void agree() {
        x.job(0, 0, 0, 0);
        x.tick(8);
        drop(0);
    }

    /** HEADER and PAYLOAD of packet k of the latest tick, as the program has it in the air. */
    private int[] sent(int k) {
        int n = x.x.air(k, NONE);
        int[] all = new int[n - 4];
        for (int i = 4; i < n; i++) {
            all[i - 4] = x.x.air(k, i);
        }
        int[] plain = Oracle.whiten(all, x.x.air(k, -2));
        return Oracle.sub(plain, 0, plain.length - 3);
    }

    /** The next packet of a device goes with another SORT, and other bytes. */
    private void forgeSort(int d, int sort, int... placesAndBytes) {
        int[] is = nextPacket(d);
        int[] shall = is.clone();
        shall[0] = is[0] & 252 | sort;
        for (int i = 0; i < placesAndBytes.length; i += 2) {
            shall[2 + placesAndBytes[i]] = placesAndBytes[i + 1];
        }
        CHECK.due("it can be forged", x.forge(d, is, shall), true);
    }

    /** So many ticks; how many packets of the CENTRAL that had bytes were new ones. */
    private int packetsWithBytes(int ticks) {
        int count = 0;
        for (int i = 0; i < ticks; i++) {
            if (x.tick(1) > 0 && sent(0)[1] > 0) {
                count++;
            }
        }
        return count;
    }

    private void answered(String what, int... want) {
        int[] got = sent(1);
        due(what + ": bytes", got.length, want.length == 0 ? 2 : 6 + want.length);
        for (int i = 0; i < want.length && 6 + i < got.length; i++) {
            due(what + ": byte " + i, got[6 + i], want[i]);
        }
        x.look();
    }

    // ---- part 1 ----

    private static void partOne() {
        everyBitOfALinksPacket();
        everyBitOfAnAdvertisement();
        theLastBitOfTheLongestPacket();
    }

    /** "HEARD by who listens .. for its ACCESS (as it is in the air)", "GOOD .. if its CRC is right". */
    private static void everyBitOfALinksPacket() {
        BoundsTest t = linked(2, 2000);
        t.x.tick(4);
        due("an EMPTY packet has nine bytes", t.x.x.air(0, NONE), 9);
        for (int bit = 0; bit < 80; bit++) {
            t.x.noise(0, bit);
            due("packets with bit " + bit, t.x.tick(2), bit < 32 ? 1 : 2);
            due("it has as many bytes as were sent", t.x.x.air(0, NONE), 9);
            due("taken with bit " + bit, t.seen(1, 26) == 1 ? 1 : 0, bit < 72 ? 0 : 1);
        }
        for (int bit = 0; bit < 80; bit++) {
            t.x.noise(1, bit);
            t.x.tick(2);
            due("the answer taken with bit " + bit, t.seen(0, 26) == 1 ? 1 : 0, bit < 72 ? 0 : 1);
        }
    }

    private static void everyBitOfAnAdvertisement() {
        for (int bit = 0; bit < 128; bit++) {
            BoundsTest t = new BoundsTest();
            t.x.scan(0);
            t.x.advertise(1, 5);
            t.x.noise(1, bit);
            t.x.tick(1);
            due("six bytes of PAYLOAD", t.x.x.air(0, NONE), 15);
            due("REPORTS with bit " + bit, t.seen(0, 21), bit < 120 ? 0 : 1);
        }
    }

    /** "PAYLOAD (0 to 31)", "A bit (0 to 319, from ACCESS on)". */
    private static void theLastBitOfTheLongestPacket() {
        for (int n = 19; n <= 20; n++) {
            BoundsTest t = new BoundsTest();
            t.attribute(0x2A00, 3, 1);
            t.link(2, 200);
            t.secure();
            t.bytes(run(n));
            t.x.send(0, 0, 1);
            t.x.noise(0, 319);
            t.x.tick(2);
            due("bytes in the air", t.x.x.air(0, NONE), n + 20);
            due("bit 319 matters with 40 bytes alone", t.x.value(1, 1, NONE), n == 20 ? 1 : n);
            t.x.tick(2);
            due("it is sent again", t.x.value(1, 1, NONE), n);
            t.x.look();
        }
    }

    // ---- part 2 ----

    private static void partTwo() {
        sealedOfEverySize();
        fewerThanFiveBytes();
        notYetWithTheFour();
        manyAreSealed();
        aWrongMic();
    }

    /** "SEALED are n (1 to 27) bytes", "the last ones filled up with 0". */
    private static void sealedOfEverySize() {
        BoundsTest t = new BoundsTest();
        t.attribute(0x2A00, 3, 1);
        t.link(2, 200);
        t.secure();
        for (int n = 0; n <= 20; n++) {
            t.bytes(run(n));
            t.x.send(0, 0, 1);
            t.x.lose(0, 1);
            t.x.tick(2);
            due("bytes of the CURRENT PDU", t.seen(0, 12), 4 + 3 + n + 4);
            t.x.tick(2);
            due("opened", t.x.value(1, 1, NONE), n);
            for (int i = 0; i < n; i++) {
                due("byte " + i, t.x.value(1, 1, i), i + 1);
            }
        }
        due("SEALED once, though sent twice", t.seen(0, 15), 22);
        due("opened once", t.seen(1, 16), 22);
    }

    /** "REASON 61, and no more, if it has fewer than 5 bytes": the CENTRAL has a 7 to send as it acknowledges the 5. */
    private static void fewerThanFiveBytes() {
        BoundsTest t = linked(2, 200);
        t.keys();
        t.x.encrypt(0);
        t.x.tick(2);
        due("the 4 was sent", t.x.o.dev[1].s.op, 4);
        int[] is = t.nextPacket(1);
        due("a 5 is next", is[2], 5);
        t.change(1, 0, 3);
        t.x.tick(2);
        due("the CENTRAL does not know a 5 of OP 3", t.seen(0, 9), 1);
        t.x.tick(2);
        due("a 7 of two bytes", t.sent(0)[1], 2);
        t.came(1, 7, 61, 0, 0, 0);
        due("STANDBY", t.seen(1, 0), 0);
        due("the KEY stays", t.x.x.byteOf(1, 1, 15) >= 0 ? 1 : 0, 1);
        due("it was ACKNOWLEDGED as any GOOD one is", t.seen(0, 11), 0);
    }

    /** "When that 5 is ACKNOWLEDGED, what COMES is SEALED": not yet with the 4. */
    private static void notYetWithTheFour() {
        BoundsTest t = linked(2, 200);
        t.keys();
        t.x.encrypt(0);
        t.change(1, 0, 3);
        t.x.tick(2);
        due("the 4 came as a 3, for which a CENTRAL has a 7", t.seen(0, 9), 1);
        t.x.tick(2);
        due("a 7 of two bytes that acknowledges the 4", t.sent(0)[1], 2);
        due("it is heard without a MIC", t.seen(1, 0), 5);
        due("nothing was opened", t.seen(1, 16), 0);
        t.x.tick(4);
        due("the 5 did nothing without a 4", t.seen(0, 14), 0);
        due("HELD", t.seen(0, 13), 1);
        due("HELD", t.seen(1, 13), 1);
    }

    /** "N's five lowest bytes": more than 255 are SEALED in one link. */
    private static void manyAreSealed() {
        BoundsTest t = linked(2, 200);
        t.secure();
        for (int i = 1; i <= 260; i++) {
            t.x.control(0, 1);
            for (int k = 0; k < 4; k++) {
                t.x.tick(1);
                t.x.look();
            }
            t.drop(0);
        }
        due("sent SEALED", t.seen(0, 15), 261);
        due("opened SEALED", t.seen(0, 16), 261);
    }

    /** "With REASON 61 HEARD AT, SN and NESN are as with any GOOD one." */
    private static void aWrongMic() {
        for (int place = 0; place < 13; place++) {
            BoundsTest t = linked(2, 200);
            t.secure();
            t.x.control(0, 1);
            int[] is = t.nextPacket(0);
            due("nine bytes and a MIC", is[1], 13);
            t.change(0, place, is[2 + place] ^ 128);
            int sn = t.seen(0, 3);
            t.x.tick(2);
            due("its NESN is turned", t.sent(1)[0] >> 2 & 1, 1 - sn);
            due("so that it is ACKNOWLEDGED", t.seen(0, 3), 1 - sn);
            due("no CURRENT PDU", t.seen(0, 11), 0);
            t.came(1, 7, 61, 0, 0, 0);
            t.nothingElse(1);
        }
    }

    private void keys() {
        x.allow(1, 1);
        x.pair(0, 1);
        x.tick(20);
        drop(0);
        drop(1);
        due("a KEY", x.x.byteOf(0, 1, 0) >= 0 ? 1 : 0, 1);
    }

    // ---- part 3 ----

    private static void partThree() {
        drawsGoRound();
        channelsByTurns();
        dataFromNoneToTwenty();
        linksAtTheirBounds();
        improperConnections();
        for (int interval : new int[] {2, 9, 50}) {
            sixIntervals(interval, 10);
            sixIntervals(interval, 2000);
        }
        silence(2, 10);
        silence(5, 10);
        silence(10, 10);
        silence(11, 10);
        silence(50, 10);
        silence(50, 2000);
        for (int hop = 5; hop <= 16; hop++) {
            for (long map : new long[] {ALL, 3, 1L << 36 | 1, 3L << 35, 0x155555555L, ALL ^ 1, ALL ^ 1L << 36}) {
                hops(hop, map);
            }
        }
        theFirstReason();
        asAtFirst();
        whatStays();
    }

    /** "x is x * 1103515245 + 12345 (an int that goes round), the DRAW is bits 16 to 23", "(a DRAW AND 3) more". */
    private static void drawsGoRound() {
        int[] seeds = {0, 1, 2, 3, 4, 5, 6, -1, -2, Integer.MAX_VALUE, Integer.MIN_VALUE, 0x7FFF0000, 0x80008000};
        int seen = 0;
        for (int seed : seeds) {
            BoundsTest t = new BoundsTest();
            t.x.seed(0, seed);
            t.x.advertise(0, 5);
            t.x.tick(1);
            long all = Math.floorMod((seed & 0xFFFFFFFFL) * 1103515245L + 12345L, 1L << 32);
            int more = (int) (all >> 16) & 3;
            seen |= 1 << more;
            due("NEXT by " + seed, t.seen(0, 8), 5 + more - 1);
        }
        due("0 to 3 were drawn", seen, 15);
    }

    /** "The other one listens .. on channel 37 + T modulo 3." */
    private static void channelsByTurns() {
        for (int at = 0; at < 7; at++) {
            for (int lost = 0; lost <= 3; lost++) {
                BoundsTest t = new BoundsTest();
                for (int i = 0; i < at; i++) {
                    t.x.tick(1);
                }
                t.x.scan(0);
                t.x.advertise(1, 5);
                t.x.lose(1, lost);
                t.x.tick(1);
                due("REPORTS at " + at + " with " + lost + " lost", t.seen(0, 21), lost > at % 3 ? 0 : 1);
                due("all three were sent", t.x.x.air(2, -2), 39);
            }
        }
    }

    /** "GOOD, its first byte 0, with 6 bytes at least"; "the TAPE (20 bytes at most)". */
    private static void dataFromNoneToTwenty() {
        for (int n : new int[] {0, 1, 19, 20}) {
            BoundsTest t = new BoundsTest();
            t.x.scan(0);
            t.bytes(run(n));
            CHECK.due("advertise with " + n, t.x.advertise(1, 5), true);
            due("the TAPE is empty then", t.x.x.byteOf(0, 4, 0), NONE);
            t.x.tick(1);
            due("a REPORT", t.seen(0, 21), 1);
            due("bytes of DATA", t.seen(0, 22), n);
            due("its address", t.x.x.number(0, 1), B);
            due("the last byte", t.x.x.byteOf(0, 0, n - 1), n == 0 ? NONE : n);
            due("behind it", t.x.x.byteOf(0, 0, n), NONE);
        }
    }

    /** "INTERVAL 2 to 50, TIMEOUT 10 to 2000, a MAP of 2 channels at least of 0 to 36 .., HOP 5 to 16: it is PERIPHERAL." */
    private static void linksAtTheirBounds() {
        long[][] inside = {{2, 100, 7, ALL}, {50, 100, 7, ALL}, {9, 10, 7, ALL}, {9, 2000, 7, ALL}, {9, 100, 5, ALL},
            {9, 100, 16, ALL}, {9, 100, 7, 3}, {9, 100, 7, 3L << 35}, {9, 100, 7, 1L << 36 | 1}};
        for (long[] w : inside) {
            BoundsTest t = new BoundsTest();
            t.x.advertise(1, 5);
            CHECK.due("connect", t.x.connect(0, B, (int) w[0], (int) w[1], (int) w[2], w[3]), true);
            t.x.tick(1);
            for (int d = 0; d < 2; d++) {
                due("STATE", t.seen(d, 0), 4 + d);
                due("INTERVAL", t.seen(d, 5), w[0]);
                due("TIMEOUT", t.seen(d, 7), w[1]);
                due("HOP", t.seen(d, 6), w[2]);
                due("MAP", t.x.x.number(d, 0), w[3]);
                due("ANCHOR", t.seen(d, 8), w[0] - 1);
                due("no EVENT as yet", t.seen(d, 2), NONE);
            }
        }
    }

    /** The same bounds in the air: the packet of first byte 5 with just one more, or one less. */
    private static void improperConnections() {
        int[][] packets = {{19, 2, 1}, {19, 1, 0}, {19, 50, 1}, {19, 51, 0}, {21, 10, 1}, {21, 9, 0}, {28, 5, 1}, {28, 4, 0},
            {28, 16, 1}, {28, 17, 0}, {27, 0x1F, 1}, {27, 0x20, 0}, {27, 0x3F, 0}, {6, 0x0F, 1}, {6, 0x0E, 0}, {11, 0x8A, 0}};
        for (int[] p : packets) {
            BoundsTest t = new BoundsTest();
            t.x.advertise(1, 5);
            t.x.connect(0, B, 9, 200, 7, ALL);
            t.change(0, p[0], p[1]);
            t.x.tick(1);
            due("byte " + p[0] + " being " + p[1], t.seen(1, 0), p[2] == 1 ? 5 : 1);
            due("the CENTRAL is one", t.seen(0, 0), 4);
        }
        int[][] timeouts = {{0xD0, 7, 1}, {0xD1, 7, 0}};
        for (int[] p : timeouts) {
            BoundsTest t = new BoundsTest();
            t.x.advertise(1, 5);
            t.x.connect(0, B, 9, 200, 7, ALL);
            t.change(0, 21, p[0], 22, p[1]);
            t.x.tick(1);
            due("TIMEOUT 2000 is one, 2001 none", t.seen(1, 0), p[2] == 1 ? 5 : 1);
        }
        for (int bits = 1; bits <= 3; bits += 2) {
            BoundsTest t = new BoundsTest();
            t.x.advertise(1, 5);
            t.x.connect(0, B, 9, 200, 7, 7);
            t.change(0, 23, bits);
            t.x.tick(1);
            due("2 channels at least", t.seen(1, 0), bits == 3 ? 5 : 1);
        }
    }

    /** "with 62, if nothing GOOD was heard as yet, and T - HEARD AT is 6 INTERVALS or more". */
    private static void sixIntervals(int interval, int timeout) {
        for (int lost = 5; lost <= 6; lost++) {
            BoundsTest t = linked(interval, timeout);
            t.x.lose(0, lost);
            t.x.tick(6 * interval - 1);
            due("CENTRAL still, whatever the TIMEOUT is", t.seen(0, 0), 4);
            due("PERIPHERAL still", t.seen(1, 0), 5);
            due("HEARD AT", t.seen(0, 26), 6 * interval);
            t.x.tick(1);
            due("six events less one can be lost", t.seen(0, 0), lost == 5 ? 4 : 0);
            due("six events less one can be lost", t.seen(1, 0), lost == 5 ? 5 : 0);
            for (int d = 0; d < 2 && lost == 6; d++) {
                t.came(d, 7, 62, 0, 0, 0);
            }
        }
    }

    /** "with 8, if something was, and it is TIMEOUT or more". */
    private static void silence(int interval, int timeout) {
        BoundsTest t = linked(interval, timeout);
        t.x.tick(interval);
        due("heard in the latest tick", t.seen(0, 26), 1);
        t.x.lose(0, 100);
        t.x.tick(Math.min(timeout - 1, 1000));
        if (timeout - 1 > 1000) {
            t.x.tick(timeout - 1 - 1000);
        }
        due("CENTRAL still", t.seen(0, 0), 4);
        due("PERIPHERAL still", t.seen(1, 0), 5);
        t.x.tick(1);
        for (int d = 0; d < 2; d++) {
            t.came(d, 7, 8, 0, 0, 0);
            due("STANDBY", t.seen(d, 0), 0);
        }
        if (timeout % interval != 0) {
            return;
        }
        BoundsTest u = linked(interval, timeout);
        u.x.tick(interval);
        u.x.lose(0, timeout / interval - 1);
        for (int i = 0; i < timeout; i += 10) {
            u.x.tick(10);
        }
        due("heard with the last EVENT in time", u.seen(0, 0), 4);
        due("heard with the last EVENT in time", u.seen(1, 0), 5);
    }

    /** "u is (u + HOP) modulo 37; the channel is u, if it is in the MAP, else channel number (u modulo n) of the n". */
    private static void hops(int hop, long map) {
        BoundsTest t = new BoundsTest();
        t.x.advertise(1, 5);
        t.x.connect(0, B, 2, 100, hop, map);
        t.x.tick(1);
        int[] used = new int[37];
        int n = 0;
        for (int c = 0; c < 37; c++) {
            if ((map >> c & 1) == 1) {
                used[n++] = c;
            }
        }
        for (int e = 1; e <= 80; e++) {
            t.x.tick(2);
            int u = hop * e % 37;
            int want = (map >> u & 1) == 1 ? u : used[u % n];
            due("channel of EVENT " + e, t.x.x.device(0, 2), want);
            due("channel of EVENT " + e, t.x.x.device(1, 2), want);
            due("in the air", t.x.x.air(1, -2), want);
        }
        due("EVENT", t.seen(1, 1), 80);
    }

    /** "DISCONNECTED with the first REASON that came"; "(of the first such)". */
    private static void theFirstReason() {
        BoundsTest t = linked(2, 200);
        t.x.control(0, 2);
        t.x.control(1, 2);
        t.x.tick(2);
        t.came(0, 7, 22, 0, 0, 0);
        t.came(1, 7, 19, 0, 0, 0);
        BoundsTest u = linked(2, 200);
        u.x.control(1, 2);
        u.x.control(1, 2);
        u.change(1, 1, 0);
        u.x.tick(2);
        due("it comes with the next packet", u.seen(0, 0), 4);
        u.x.tick(2);
        u.came(0, 7, 0, 0, 0, 0);
        u.came(1, 7, 22, 0, 0, 0);
        BoundsTest v = linked(2, 200);
        v.x.control(1, 2);
        v.change(1, 1, 255);
        v.x.tick(4);
        v.came(0, 7, 255, 0, 0, 0);
    }

    /** "It is STANDBY then; all of parts 4 to 8 of this link is as at first (but KEY)". */
    private static void asAtFirst() {
        BoundsTest t = new BoundsTest();
        t.x.mtu(0, 40);
        t.x.mtu(1, 40);
        t.attribute(0x2A00, 3, run(40));
        t.x.attribute(0, 0x2A00, 3);
        t.link(2, 20);
        t.agree();
        t.secure();
        t.x.control(0, 0);
        t.x.tick(8);
        for (int d = 0; d < 2; d++) {
            t.drop(d);
            t.x.lose(d, 100);
            t.x.job(d, 4, 1, 0);
            t.x.send(d, 2, 1);
            t.x.control(d, 1);
            t.x.control(d, 2);
        }
        t.x.map(0, 6);
        t.x.pair(0, 9);
        t.x.tick(3);
        int[] before = {9, 10, 11, 14, 15, 16, 17, 19, 28};
        for (int w : before) {
            due("device(0, " + w + ") is another one in the link", t.seen(0, w) == new LowEnergy(A, B).device(0, w) ? 1 : 0, 0);
        }
        due("pairing's step", t.seen(0, 18), 1);
        t.x.tick(25);
        for (int d = 0; d < 2; d++) {
            for (int w = 0; w <= 20; w++) {
                due("device(" + d + ", " + w + ")", t.seen(d, w), w == 17 ? 23 : w == 2 || w == 19 ? NONE : 0);
            }
            due("device(" + d + ", 26)", t.seen(d, 26), 0);
            due("device(" + d + ", 28)", t.seen(d, 28), 0);
            due("no MAP", t.x.x.number(d, 0), 0);
            due("a KEY", t.x.x.byteOf(d, 1, 0) >= 0 ? 1 : 0, 1);
            due("no SESSION", t.x.x.byteOf(d, 2, 0), NONE);
            due("no IV", t.x.x.byteOf(d, 3, 0), NONE);
            t.came(d, 7, 8, 0, 0, 0);
            t.nothingElse(d);
            t.x.lose(d, 0);
        }
        t.link(2, 200);
        due("no EVENT as yet", t.seen(0, 1), 0);
        due("nothing waits", t.packetsWithBytes(20), 0);
        due("no MAP waited", t.x.x.number(0, 0), ALL);
        due("u began anew", t.x.x.device(0, 2), 7 * 10 % 37);
        CHECK.due("a MAP may be told", t.x.map(0, 6), true);
        CHECK.due("a 12 may be sent", t.x.control(0, 0), true);
        CHECK.due("a JOB may begin", t.x.job(0, 4, 1, 0), true);
        CHECK.due("a 29 may be sent", t.x.send(1, 2, 1), true);
        CHECK.due("a pairing may begin", t.x.pair(0, 9), true);
        CHECK.due("the KEY is there", t.x.encrypt(0), true);
        t.x.tick(60);
        t.x.lookClosely();
    }

    /** "Behind DISCONNECTED the device's ATTRIBUTES, own MTU, passkey, KEY, FEATURES, .. COMPLETIONS, noise and loss stay". */
    private static void whatStays() {
        BoundsTest t = new BoundsTest();
        t.x.mtu(0, 40);
        t.x.mtu(1, 41);
        t.x.features(1, 0x77);
        t.attribute(0x2A00, 3, run(40));
        t.link(4, 20);
        t.x.allow(1, 0);
        t.x.pair(0, 0);
        t.x.tick(16);
        t.x.control(0, 2);
        t.x.tick(4);
        due("STANDBY", t.seen(1, 0), 0);
        due("COMPLETIONS", t.seen(0, 24), 2);
        t.x.noise(1, 0);
        t.x.lose(0, 3);
        t.x.scan(0);
        t.x.tick(3);
        due("loss", t.seen(0, 27), 3);
        t.x.stop(0);
        t.x.advertise(1, 5);
        t.x.tick(1);
        due("noise", t.x.x.air(0, 0), 0xD7);
        t.x.stop(1);
        t.x.lose(0, 0);
        t.link(2, 100);
        t.agree();
        due("own MTU", t.seen(1, 17), 40);
        t.x.control(0, 1);
        t.x.tick(4);
        t.came(0, 15, 0, 0, 0, 8, NONE, NONE, NONE, NONE, NONE, 0x77);
        t.x.pair(0, 0);
        t.x.tick(20);
        t.came(0, 10, 0, 0, 0, 0);
        due("ATTRIBUTES", t.x.value(1, 1, NONE), 40);
    }

    // ---- part 4 ----

    private static void partFour() {
        fourOrFiveWait();
        sixWait();
        heldPassesOver();
        int[][] instants = {{0, 40}, {1, 0}, {2, 0}, {32766, 0}, {32767, 0}, {32768, 40}, {65535, 40}};
        for (int[] i : instants) {
            instant(i[0], i[1]);
        }
        instantsGoRound();
        for (int op = 0; op < 256; op++) {
            controlOfTwoBytes(op);
        }
        controlOfOtherSizes();
        versionsOnce();
        countsBeginAnew();
    }

    /** "What is NEW of CONTROL is passed over, if more than four wait (whatever it is)". */
    private static void fourOrFiveWait() {
        for (int wait = 3; wait <= 5; wait++) {
            BoundsTest t = linked(2, 200);
            for (int i = 0; i < wait; i++) {
                CHECK.due("an 8", t.x.control(1, 1), true);
            }
            CHECK.due("one more", t.x.control(0, 1), true);
            due("CONTROL that wait", t.seen(1, 9), wait);
            t.x.tick(2);
            due("a 9 more, an 8 less", t.seen(1, 9), wait < 5 ? wait : 4);
            t.x.tick(40);
            due("COMPLETION 15", t.x.x.completion(0, 0), wait < 5 ? 15 : NONE);
        }
        BoundsTest u = linked(2, 200);
        for (int i = 0; i < 5; i++) {
            u.x.control(1, 1);
        }
        u.x.control(0, 2);
        u.x.tick(2);
        due("even a 2 is passed over", u.seen(1, 0), 5);
        u.came(0, 7, 22, 0, 0, 0);
        u.x.tick(200);
        u.came(1, 7, 8, 0, 0, 0);
    }

    /** "CONTROL (at most 6 wait)": four, a 4 and a 5, while the CURRENT PDU is not ACKNOWLEDGED. */
    private static void sixWait() {
        BoundsTest u = linked(2, 200);
        u.keys();
        u.x.encrypt(0);
        for (int i = 0; i < 4; i++) {
            u.x.control(1, 1);
        }
        due("a 3", u.nextPacket(0)[2], 3);
        u.x.tick(2);
        due("four, a 4 and a 5, less one", u.seen(1, 9), 5);
        due("HELD", u.seen(1, 13), 1);
        u.x.tick(40);
        due("SECURE", u.seen(0, 14), 1);
        BoundsTest v = linked(2, 200);
        v.keys();
        for (int i = 0; i < 5; i++) {
            v.x.control(1, 1);
        }
        v.x.lose(1, 1);
        v.x.tick(2);
        v.x.encrypt(0);
        v.x.tick(2);
        int[] is = v.nextPacket(0);
        due("a 3", is[2], 3);
        int[] shall = is.clone();
        shall[0] ^= 4;
        v.x.forge(0, is, shall);
        v.x.tick(2);
        due("all six", v.seen(1, 9), 6);
        v.x.tick(60);
        due("they were all sent", v.seen(1, 9), 0);
    }

    /** "so it is, if who takes it is HELD, and its OP is neither 2 to 6 nor 13". */
    private static void heldPassesOver() {
        for (int op = 0; op <= 14; op++) {
            BoundsTest t = linked(2, 200);
            t.keys();
            t.x.control(1, 2);
            t.x.encrypt(0);
            t.change(1, 0, op, 1, 77);
            t.x.tick(2);
            due("the CENTRAL has a 7 to send for OP " + op, t.seen(0, 9), op >= 3 && op <= 6 ? 1 : 0);
            due("HELD still, but with 13", t.seen(0, 13), op == 13 ? 0 : 1);
            t.x.tick(2);
            due("a 2 is heard", t.x.x.completion(0, 0) == 7 ? t.x.x.completion(0, 1) : 0, op == 2 ? 77 : 0);
            due("of others nothing", t.x.x.completion(0, 0), op == 2 ? 7 : op == 13 ? 13 : NONE);
        }
    }

    /** "REASON 40, if INSTANT - EVENT (modulo 65536) is not 1 to 32767; else this MAP waits". */
    private static void instant(int ahead, int reason) {
        BoundsTest t = linked(2, 200);
        t.x.tick(6);
        int instant = t.seen(1, 1) + ahead & 0xFFFF;
        t.x.map(0, 6);
        t.change(0, 6, instant & 255, 7, instant >> 8);
        t.x.tick(2);
        due("PERIPHERAL with INSTANT ahead by " + ahead, t.seen(1, 0), reason == 0 ? 5 : 0);
        if (reason != 0) {
            t.came(1, 7, reason, 0, 0, 0);
            return;
        }
        t.x.tick(2);
        due("the MAP with EVENT its INSTANT", t.x.x.number(1, 0), ahead == 1 ? 6 : ALL);
        t.x.tick(2);
        due("the MAP one EVENT on", t.x.x.number(1, 0), ahead <= 2 ? 6 : ALL);
    }

    /** "EVENT is 1 more (modulo 65536)", "INSTANT EVENT + 8". */
    private static void instantsGoRound() {
        BoundsTest t = linked(2, 200);
        for (int i = 0; i < 131; i++) {
            t.x.tick(1000);
        }
        t.x.tick(56);
        due("EVENT", t.seen(0, 1), 65528);
        t.x.map(0, 6);
        due("INSTANT 0", t.nextPacket(0)[8] | t.nextPacket(0)[9] << 8, 0);
        t.x.tick(14);
        due("EVENT", t.seen(0, 1), 65535);
        t.x.tick(2);
        due("EVENT goes round", t.seen(0, 1), 0);
        due("EVENT goes round", t.seen(1, 1), 0);
        due("the MAP waits yet", t.x.x.number(1, 0), ALL);
        t.x.tick(2);
        due("the MAP", t.x.x.number(0, 0), 6);
        due("the MAP", t.x.x.number(1, 0), 6);
        due("both hear", t.seen(1, 26), 1);
    }

    /** "With other bytes than its OP has, another OP, .. by a PERIPHERAL of 4, 5 and 13: a 7 with its OP is sent". */
    private static void controlOfTwoBytes(int op) {
        BoundsTest t = linked(2, 200);
        t.x.control(0, 2);
        if (op != 2) {
            t.change(0, 0, op);
        }
        t.x.tick(2);
        due("the PERIPHERAL ends by a 2 alone", t.seen(1, 0), op == 2 ? 0 : 5);
        due("a 7 with OP " + op, t.x.x.completion(0, 0), op == 2 || op == 7 ? 7 : 19);
        due("its OP", t.x.x.completion(0, 1), op == 2 || op == 7 ? 22 : op);
        due("a 7 of 19", t.x.x.completion(1, 0), op == 7 ? 19 : op == 2 ? 7 : NONE);
    }

    private static void controlOfOtherSizes() {
        int[][] eights = {{1, 1}, {2, 1}, {3, 1}, {4, 1}, {5, 1}, {6, 1}, {7, 0}, {8, 2}, {9, 0}, {12, 1}, {13, 1}};
        for (int[] e : eights) {
            BoundsTest t = linked(2, 200);
            t.x.control(0, 1);
            if (e[0] != 8) {
                t.change(0, 0, e[0]);
            }
            t.x.tick(2);
            int[] answer = t.sent(1);
            due("nine bytes of OP " + e[0], answer.length == 2 ? 0 : answer[2] == 7 ? 1 : 2, e[1]);
            due("features at the PERIPHERAL", t.x.x.completion(1, 0), e[0] == 9 ? 15 : NONE);
        }
        int[][] versions = {{1, 1}, {3, 1}, {8, 1}, {9, 1}, {12, 2}, {7, 0}};
        for (int[] v : versions) {
            BoundsTest t = linked(2, 200);
            t.x.control(0, 0);
            if (v[0] != 12) {
                t.change(0, 0, v[0]);
            }
            t.x.tick(2);
            int[] answer = t.sent(1);
            due("six bytes of OP " + v[0], answer.length == 2 ? 0 : answer[2] == 7 ? 1 : 2, v[1]);
        }
        for (int op : new int[] {1, 3}) {
            BoundsTest t = linked(2, 200);
            t.x.control(1, 1);
            t.change(1, 0, op);
            t.x.tick(2);
            due("a CENTRAL has a 7 for OP " + op, t.seen(0, 9), 1);
            t.x.tick(2);
            t.came(1, 19, op, 0, 0, 0);
        }
    }

    /** "12: COMPLETION 14; a 12 is sent, if none was in this link (9, 1, 258)." */
    private static void versionsOnce() {
        BoundsTest t = linked(2, 200);
        t.x.control(0, 0);
        t.x.control(1, 0);
        t.x.tick(20);
        for (int d = 0; d < 2; d++) {
            t.came(d, 14, 9, 1, 258, 0);
            t.nothingElse(d);
        }
        t.x.control(0, 2);
        t.x.tick(2);
        t.link(2, 200);
        CHECK.due("in another link", t.x.control(1, 0), true);
        t.x.tick(20);
        t.came(0, 14, 9, 1, 258, 0);
        t.came(1, 14, 9, 1, 258, 0);
    }

    /** "SENDING and what COMES is SEALED (both counts begin anew, as always when that is told)". */
    private static void countsBeginAnew() {
        BoundsTest t = linked(2, 200);
        for (int round = 0; round < 2; round++) {
            t.keys();
            t.x.control(0, 1);
            t.x.tick(8);
            t.drop(0);
            for (int d = 0; d < 2; d++) {
                due("nothing was SEALED as yet", t.seen(d, 15) + t.seen(d, 16), 0);
            }
            t.x.encrypt(0);
            t.x.tick(12);
            for (int d = 0; d < 2; d++) {
                t.came(d, 12, 0, 0, 0, 0);
                due("the 6 was sent", t.seen(d, 15), 1);
                due("the 6 was opened", t.seen(d, 16), 1);
            }
            t.x.control(0, 2);
            t.x.tick(2);
            t.link(2, 200);
        }
    }

    // ---- part 5 ----

    private static void partFive() {
        int[][] pieces = {{0, 1}, {19, 1}, {20, 1}, {21, 2}, {46, 2}, {47, 2}, {48, 3}, {61, 3}};
        for (int[] p : pieces) {
            pieces(p[0], p[1]);
        }
        for (int size = 1; size <= 5; size++) {
            firstPieces(size);
        }
        aMessageWithoutBytes();
        whatIsNotWholeIsGone();
        for (int wait = 6; wait <= 8; wait++) {
            messagesThatWait(wait);
        }
    }

    /** "Pieces are 27 bytes, the last one less; the first one begins, others go on." */
    private static void pieces(int n, int want) {
        BoundsTest t = linkedByMtu(64, run(1));
        t.bytes(run(n));
        CHECK.due("MTU - 3 at most", t.x.send(0, 0, 1), true);
        int left = 4 + 3 + n;
        for (int i = 0; i < want; i++) {
            due("it waits till its last piece is taken", t.seen(0, 10), 1);
            t.x.tick(2);
            int[] piece = t.sent(0);
            due("SORT", piece[0] & 3, i == 0 ? 2 : 1);
            due("bytes", piece[1], Math.min(27, left));
            left -= 27;
        }
        due("none waits", t.seen(0, 10), 0);
        due("nothing else is sent", t.packetsWithBytes(6), 0);
        due("written", t.x.value(1, 1, NONE), n > 40 ? 1 : n);
    }

    /** "the first piece has 4 bytes at least": the last piece of one message goes as the first one of another. */
    private static void firstPieces(int size) {
        BoundsTest t = linkedByMtu(64, run(1), run(1));
        int[] whole = Oracle.row(size + 23 - 4, 0, 4, 0, 82, 2, 0, new int[40]);
        t.bytes(Oracle.row(run(20), Oracle.sub(whole, 0, size)));
        t.x.send(0, 0, 1);
        t.x.tick(2);
        due("bytes of the first piece", t.nextPacket(0)[1], size);
        t.forgeSort(0, 2);
        t.x.tick(2);
        t.bytes(new int[16]);
        t.x.send(0, 0, 1);
        int[] changes = new int[14];
        for (int i = 0; i < 7; i++) {
            changes[2 * i] = i;
            changes[2 * i + 1] = whole[size + i];
        }
        t.forgeSort(0, 1, changes);
        t.x.tick(2);
        due("what goes on with it is taken, if it was one", t.x.value(1, 2, NONE), size < 4 ? 1 : size + 23 - 4 - 3);
        t.x.look();
    }

    /** "One that is whole is passed over, if .. it has no bytes." */
    private static void aMessageWithoutBytes() {
        BoundsTest t = linkedByMtu(64, run(1));
        t.bytes(run(24));
        t.x.send(0, 0, 1);
        t.x.tick(2);
        t.forgeSort(0, 2, 0, 0, 1, 0, 2, 4, 3, 0);
        t.x.tick(2);
        t.answered("no bytes");
        t.bytes(run(3));
        t.x.send(0, 0, 1);
        t.forgeSort(0, 1);
        t.x.tick(2);
        due("it was whole, so that nothing goes on", t.x.value(1, 1, NONE), 1);
        t.x.send(0, 0, 1);
        t.x.tick(2);
        due("the next one comes", t.x.value(1, 1, NONE), 0);
    }

    /** "one that begins: what was not whole is gone". */
    private static void whatIsNotWholeIsGone() {
        BoundsTest t = linkedByMtu(64, run(1), run(1));
        t.bytes(run(40));
        t.x.send(0, 0, 1);
        t.x.tick(2);
        t.bytes(run(6));
        t.x.send(0, 0, 2);
        t.forgeSort(0, 2, 0, 16, 1, 0, 2, 4, 3, 0, 4, 82, 5, 2, 6, 0);
        t.x.tick(2);
        due("the first one is gone", t.x.value(1, 1, NONE), 1);
        due("the other one begins and is whole", t.x.value(1, 2, NONE), 13);
        t.x.tick(2);
        due("the next one", t.x.value(1, 2, NONE), 6);
    }

    /** "8 at most wait"; "One that is whole is passed over, if 8 wait here". */
    private static void messagesThatWait(int wait) {
        BoundsTest t = new BoundsTest();
        t.attribute(0x2A00, 3, 1);
        t.link(2, 200);
        for (int i = 0; i < wait; i++) {
            CHECK.due("a 27", t.x.send(1, 1, 1), true);
        }
        t.x.job(0, 4, 1, 0);
        t.x.tick(2);
        due("one was taken, and an answer more waits", t.seen(1, 10), wait < 8 ? wait : 7);
        t.x.tick(40);
        due("the JOB is done", t.seen(0, 19), wait < 8 ? NONE : 4);
        for (int i = 0; i < wait; i++) {
            t.came(0, 16, 1, 0, 0, 1);
        }
        if (wait < 8) {
            t.came(0, 4, 1, 0, 0, 1);
            t.came(0, 8, 4, 0, 0, 0);
        }
        t.nothingElse(0);
    }

    // ---- part 6 ----

    private static void partSix() {
        int[][] passkeys = {{0, 0}, {999999, 999999}, {0, 1}, {999999, 999998}, {65536, 0}, {1, 256}};
        for (int[] p : passkeys) {
            passkeys(p[0], p[1]);
        }
        for (int op = 0; op <= 6; op++) {
            for (int size = 3; size <= 23; size++) {
                pairingAtStepZero(op, size);
            }
        }
        for (int step = 2; step <= 3; step++) {
            for (int op = 0; op <= 6; op++) {
                for (int size = 16; size <= 18; size++) {
                    pairingAtStep(step, op, size);
                }
            }
        }
        for (int op = 0; op <= 6; op++) {
            pairingAtTheCentral(op);
        }
        for (int place = 1; place <= 6; place++) {
            otherOffers(0, place);
            otherOffers(1, place);
        }
        for (int place = 1; place <= 16; place++) {
            otherConfirms(place);
        }
        refusalsOfPairing();
        aOneAmidAPairing();
    }

    private static void passkeys(int allowed, int told) {
        BoundsTest t = linked(2, 200);
        CHECK.due("allow", t.x.allow(1, allowed), true);
        CHECK.due("pair", t.x.pair(0, told), true);
        t.x.tick(20);
        for (int d = 0; d < 2; d++) {
            t.came(d, allowed == told ? 10 : 11, allowed == told ? 0 : 4, 0, 0, 0);
            due("step 0", t.seen(d, 18), 0);
            due("a KEY", t.x.x.byteOf(d, 1, 15) >= 0 ? 1 : 0, allowed == told ? 1 : 0);
            due("byte 16 of the KEY", t.x.x.byteOf(d, 1, 16), NONE);
        }
    }

    /** A message on channel 6, made of an 82: its first byte, then any. */
    private void pairingMessage(int op, int size) {
        bytes(new int[size - 3]);
        x.send(0, 0, 0);
        change(0, 2, 6, 4, op);
        x.tick(2);
    }

    /** "messages by their first byte, with just these bytes behind it"; "All else is passed over." */
    private static void pairingAtStepZero(int op, int size) {
        BoundsTest t = linked(2, 200);
        t.x.allow(1, 5);
        t.pairingMessage(op, size);
        boolean begins = op == 1 && size == 7;
        due("step with " + op + " of " + size, t.seen(1, 18), begins ? 2 : 0);
        t.nothingElse(1);
        t.answered("message " + op + " of " + size, begins ? new int[] {2, 3, 0, 0, 16, 0, 0} : new int[0]);
    }

    /** The PERIPHERAL is at step 2 or 3, and the CENTRAL's next message is none that it knows. */
    private static BoundsTest paused(int step) {
        BoundsTest t = new BoundsTest();
        t.attribute(0x2A00, 3, run(40));
        t.link(2, 200);
        t.x.allow(1, 5);
        t.x.pair(0, 5);
        t.x.tick(2 * step - 2);
        t.change(0, 4, 9);
        t.x.tick(4);
        due("step", t.seen(1, 18), step);
        return t;
    }

    private static void pairingAtStep(int step, int op, int size) {
        BoundsTest t = paused(step);
        t.pairingMessage(op, size);
        boolean three = step == 2 && op == 3 && size == 17;
        boolean four = step == 3 && op == 4 && size == 17;
        String what = "at step " + step + " a message " + op + " of " + size;
        due(what, t.seen(1, 18), three ? 3 : four ? 0 : step);
        if (four) {
            t.answered(what, 5, 4);
            t.came(1, 11, 4, 0, 0, 0);
        } else {
            due(what + " is answered", t.sent(1)[1], three ? 21 : 0);
        }
        t.nothingElse(1);
    }

    /** "CENTRAL, step 1, 2: ..": at its step 1 it takes a 2 of seven bytes, or a 5 (of two). */
    private static void pairingAtTheCentral(int op) {
        BoundsTest t = linked(2, 200);
        t.x.allow(1, 5);
        t.x.pair(0, 5);
        t.change(1, 4, op, 5, 7);
        t.x.tick(2);
        due("step with a message " + op + " of seven bytes", t.seen(0, 18), op == 2 ? 2 : 1);
        t.nothingElse(0);
    }

    /** "P being two 0, message 1, message 2 (seven bytes each, as this device sent them and got them)". */
    private static void otherOffers(int device, int place) {
        BoundsTest t = linked(2, 200);
        t.x.allow(1, 5);
        t.x.pair(0, 5);
        t.change(device, 4 + place, 77);
        t.x.tick(20);
        t.came(1, 11, 4, 0, 0, 0);
        t.came(0, 11, 4, 0, 0, 0);
        due("no KEY", t.x.x.byteOf(0, 1, 0), NONE);
        due("no KEY", t.x.x.byteOf(1, 1, 0), NONE);
    }

    /** "is c(TK, it) not the one that was kept, a 5 with 4, COMPLETION 11, 4": one bit of it is another one. */
    private static void otherConfirms(int place) {
        for (int device = 0; device < 2; device++) {
            BoundsTest t = linked(2, 200);
            t.x.allow(1, 5);
            t.x.pair(0, 5);
            t.x.tick(2);
            if (device == 1) {
                t.x.tick(2);
                t.x.lookClosely();
            }
            int[] is = t.nextPacket(0);
            due("a 3, then a 4", is[6], 3 + device);
            t.change(0, 4 + place, is[6 + place] ^ 1);
            t.x.tick(20);
            t.came(1, 11, 4, 0, 0, 0);
            t.came(0, 11, 4, 0, 0, 0);
        }
        BoundsTest u = linked(2, 200);
        u.x.allow(1, 5);
        u.x.pair(0, 5);
        u.x.tick(2);
        int[] is = u.nextPacket(1);
        due("the PERIPHERAL's 3", is[6], 3);
        u.change(1, 4 + place, is[6 + place] ^ 128);
        u.x.tick(20);
        u.came(1, 10, 0, 0, 0, 0);
        u.came(0, 11, 4, 0, 0, 0);
        due("the PERIPHERAL has a KEY", u.x.x.byteOf(1, 1, 0) >= 0 ? 1 : 0, 1);
        due("the CENTRAL has none", u.x.x.byteOf(0, 1, 0), NONE);
    }

    /** "5: COMPLETION 11, the REASON, step 0, if the step was not 0." */
    private static void refusalsOfPairing() {
        for (int step = 0; step <= 3; step += step == 0 ? 2 : 1) {
            BoundsTest t = step > 0 ? paused(step) : new BoundsTest();
            if (step == 0) {
                t.attribute(0x2A00, 3, run(40));
                t.link(2, 200);
            }
            t.bytes(run(40));
            t.x.job(0, 5, 1, 0);
            for (int i = 0; i < 40 && t.x.o.dev[0].s.jobOp != 24; i++) {
                t.x.tick(1);
            }
            t.change(0, 2, 6, 4, 5, 5, 200);
            t.x.tick(2);
            due("step 0", t.seen(1, 18), 0);
            if (step > 0) {
                t.came(1, 11, 200, 0, 0, 0);
            }
            t.nothingElse(1);
        }
        BoundsTest u = linked(2, 200);
        u.x.allow(1, 5);
        u.x.pair(0, 5);
        u.x.allow(1, NONE);
        u.x.tick(2);
        u.came(1, 11, 5, 0, 0, 0);
        due("step 0", u.seen(1, 18), 0);
        u.came(0, 11, 5, 0, 0, 0);
        due("step 0", u.seen(0, 18), 0);
        BoundsTest v = linked(2, 200);
        v.x.pair(0, 5);
        v.change(1, 5, 255);
        v.x.tick(2);
        v.came(0, 11, 255, 0, 0, 0);
    }

    /** "A 1 amid a pairing begins it anew at the PERIPHERAL." */
    private static void aOneAmidAPairing() {
        BoundsTest t = linked(2, 200);
        t.x.allow(1, 5);
        t.x.pair(0, 5);
        t.x.tick(2);
        t.x.allow(1, NONE);
        t.bytes(1, 2, 3, 4);
        t.x.send(0, 0, 0);
        for (int i = 0; i < 10 && t.nextPacket(0)[2 + 4] != 82; i++) {
            t.x.tick(1);
        }
        t.change(0, 2, 6, 4, 1);
        t.x.tick(2);
        t.came(1, 11, 5, 0, 0, 0);
        due("step 0", t.seen(1, 18), 0);
        t.came(0, 11, 5, 0, 0, 0);
    }

    // ---- part 7 ----

    private static void partSeven() {
        int[][] mtus = {{23, 23, 23}, {23, 64, 23}, {64, 23, 23}, {24, 64, 24}, {64, 63, 63}, {64, 64, 64}};
        for (int[] m : mtus) {
            mtus(m[0], m[1], m[2]);
        }
        mtusInTheAir();
        moreThanMtu();
        for (int rights = 0; rights < 8; rights++) {
            rights(rights, false);
            rights(rights, true);
        }
        ranges();
        everyOp();
        valuesOfForty();
        places();
        sixParts();
        rowsThatFit();
        endsOfHandles();
    }

    /** "MTU is the lesser one of both, 23 at least". */
    private static void mtus(int first, int second, int want) {
        BoundsTest t = new BoundsTest();
        t.x.mtu(0, first);
        t.x.mtu(1, second);
        t.link(2, 200);
        due("23 at first", t.seen(0, 17), 23);
        due("23 at first", t.seen(1, 17), 23);
        t.x.job(0, 0, 0, 0);
        t.x.tick(8);
        t.came(0, 8, 0, 0, 0, 0);
        due("the lesser one", t.seen(0, 17), want);
        due("the lesser one", t.seen(1, 17), want);
    }

    /** "(of 2 its MTU below 23, too)"; "0: 2 with its own MTU (MTU is the lesser one, 23 at least)". */
    private static void mtusInTheAir() {
        int[][] requests = {{0, 0}, {22, 0}, {23, 23}, {24, 24}, {39, 39}, {40, 40}, {41, 40}, {65535, 40}};
        for (int[] q : requests) {
            BoundsTest t = new BoundsTest();
            t.x.mtu(0, 64);
            t.x.mtu(1, 40);
            t.link(2, 200);
            t.x.job(0, 0, 0, 0);
            t.change(0, 5, q[0] & 255, 6, q[0] >> 8);
            t.x.tick(2);
            if (q[1] == 0) {
                t.answered("an MTU below 23", 1, 2, 0, 0, 4);
                t.came(0, 9, 2, 0, 4, 0);
            } else {
                t.answered("its own MTU", 3, 40, 0);
                t.came(0, 8, 0, 0, 0, 0);
            }
            due("MTU there", t.seen(1, 17), q[1] == 0 ? 23 : q[1]);
        }
        int[][] answers = {{0, 23}, {22, 23}, {23, 23}, {24, 24}, {64, 64}, {65, 64}, {65535, 64}};
        for (int[] a : answers) {
            BoundsTest t = new BoundsTest();
            t.x.mtu(0, 64);
            t.x.mtu(1, 40);
            t.link(2, 200);
            t.x.job(0, 0, 0, 0);
            t.change(1, 5, a[0] & 255, 6, a[0] >> 8);
            t.x.tick(2);
            due("MTU here", t.seen(0, 17), a[1]);
        }
    }

    /** "82, 27, 29, 30 with .. more than MTU, do nothing"; "4 (HANDLE 0): .. more than MTU". */
    private static void moreThanMtu() {
        for (int n = 20; n <= 21; n++) {
            BoundsTest t = new BoundsTest();
            t.x.mtu(0, 64);
            t.x.mtu(1, 64);
            t.attribute(0x2A00, 3, 9);
            t.bytes(run(n));
            t.x.attribute(0, 0x2A00, 3);
            t.link(2, 200);
            t.x.job(0, 0, 0, 0);
            t.change(0, 5, 23);
            t.x.tick(2);
            due("MTU here", t.seen(0, 17), 64);
            due("MTU there", t.seen(1, 17), 23);
            t.drop(0);
            t.bytes(run(n));
            t.x.send(0, 0, 1);
            t.x.tick(6);
            due("an 82", t.x.value(1, 1, NONE), n == 20 ? 20 : 1);
            t.x.send(0, 1, 1);
            t.x.tick(6);
            due("a 27", t.x.x.completion(1, 0), n == 20 ? 16 : NONE);
            t.drop(1);
            t.x.send(0, 2, 1);
            t.x.tick(6);
            due("a 29", t.x.x.completion(1, 0), n == 20 ? 17 : NONE);
            due("it waits for a 30", t.seen(0, 28), n == 20 ? 0 : 1);
            t.drop(0);
            t.bytes(run(n));
            t.x.job(0, 5, 1, 0);
            t.x.tick(6);
            t.came(0, n == 20 ? 5 : 9, n == 20 ? 1 : 18, 0, n == 20 ? 0 : 4, 0);
            t.drop(0);
            t.bytes(run(n - 4));
            t.x.job(0, 6, 0, 0);
            t.x.tick(6);
            t.came(0, n == 20 ? 8 : 9, 6, 0, n == 20 ? 0 : 4, 0);
        }
    }

    /** "READ is not there: 2 ..; WRITE is not there: 3; SECURE is there and the link is not: 5", in order. */
    private static void rights(int rights, boolean secure) {
        BoundsTest t = new BoundsTest();
        t.attribute(0x2803, rights, 7, 8);
        t.attribute(0x2800, rights, 9);
        t.link(2, 200);
        if (secure) {
            t.secure();
        }
        int shut = (rights & 4) != 0 && !secure ? 5 : 0;
        int read = (rights & 1) == 0 ? 2 : shut;
        int write = (rights & 2) == 0 ? 3 : shut;
        t.x.job(0, 4, 1, 0);
        t.x.tick(8);
        t.came(0, read == 0 ? 4 : 9, read == 0 ? 1 : 10, read == 0 ? 0 : 1, read, read == 0 ? 2 : 0);
        t.drop(0);
        t.x.job(0, 2, 1, 2);
        t.x.tick(8);
        t.came(0, read == 0 ? 2 : 9, read == 0 ? 1 : 8, read == 0 ? 0 : 1, read, read == 0 ? 2 : 0);
        t.drop(0);
        t.x.job(0, 1, 0, 0);
        t.x.tick(8);
        t.came(0, read == 0 ? 1 : 9, read == 0 ? 2 : 16, 2, read, read == 0 ? 1 : 0);
        t.drop(0);
        t.bytes(9);
        t.x.job(0, 6, 0, 0);
        t.x.tick(8);
        t.came(0, read == 0 ? 6 : 8, read == 0 ? 2 : 6, read == 0 ? 2 : 0, 0, 0);
        t.drop(0);
        t.x.job(0, 3, 1, 2);
        t.x.tick(8);
        t.came(0, 3, 1, 0x2803, 0, 0);
        t.drop(0);
        t.bytes(1, 2, 3);
        t.x.job(0, 5, 1, 0);
        t.x.tick(8);
        t.came(0, write == 0 ? 5 : 9, write == 0 ? 1 : 18, write == 0 ? 0 : 1, write, 0);
        t.drop(0);
        due("written", t.x.value(1, 1, NONE), write == 0 ? 3 : 2);
        t.bytes(run(21));
        t.x.job(0, 5, 1, 0);
        t.x.tick(20);
        t.came(0, write == 0 ? 5 : 9, write == 0 ? 1 : 22, write == 0 ? 0 : 1, write, 0);
        t.drop(0);
        t.bytes(5);
        t.x.send(0, 0, 1);
        t.x.tick(6);
        due("an 82 is as an 18", t.x.value(1, 1, NONE), write == 0 ? 1 : 2);
    }

    /** "1: from is 0 or above to (HANDLE from); .. 10: nothing fits (from)". */
    private static void ranges() {
        BoundsTest t = new BoundsTest();
        for (int h = 1; h <= 20; h++) {
            t.attribute(0x2803, 1, h);
        }
        t.link(2, 2000);
        int[][] faults = {{0, 0}, {0, 65535}, {2, 1}, {65535, 65534}, {21, 20}};
        for (int[] f : faults) {
            for (int kind = 2; kind <= 3; kind++) {
                t.x.job(0, kind, f[0], f[1]);
                t.x.tick(8);
                t.came(0, 9, kind == 2 ? 8 : 4, f[0], 1, 0);
            }
        }
        int[][] empty = {{21, 21}, {21, 65535}, {65535, 65535}};
        for (int[] e : empty) {
            for (int kind = 2; kind <= 3; kind++) {
                t.x.job(0, kind, e[0], e[1]);
                t.x.tick(2);
                t.answered("nothing fits", 1, kind == 2 ? 8 : 4, e[0] & 255, e[0] >> 8, 10);
                t.came(0, 8, kind, 0, 0, 0);
            }
        }
        int[][] some = {{1, 1}, {20, 20}, {20, 65535}, {19, 20}, {1, 2}};
        for (int[] s : some) {
            for (int kind = 2; kind <= 3; kind++) {
                t.x.job(0, kind, s[0], s[1]);
                t.x.tick(12);
                for (int h = s[0]; h <= Math.min(s[1], 20); h++) {
                    t.came(0, kind, h, kind == 2 ? 0 : 0x2803, 0, kind == 2 ? 1 : 0);
                }
                t.came(0, 8, kind, 0, 0, 0);
            }
        }
    }

    /** "Another OP: 6 (HANDLE 0), but none, if it has bit 64. (Odd ones to 25 are answers.)" */
    private static void everyOp() {
        for (int op = 0; op < 256; op++) {
            BoundsTest t = new BoundsTest();
            t.attribute(0x2A00, 3, 1, 2);
            t.link(2, 200);
            t.x.send(0, 0, 1);
            if (op != 82) {
                t.change(0, 4, op);
            }
            t.x.tick(2);
            boolean request = op == 2 || op == 4 || op == 6 || op == 8 || op == 10 || op == 12 || op == 16 || op == 18
                    || op == 22 || op == 24;
            boolean answer = op % 2 == 1 && op <= 25;
            if (op == 10) {
                t.answered("OP 10", 11, 1, 2);
            } else if (op == 18) {
                t.answered("OP 18", 19);
            } else if (op == 29) {
                t.answered("OP 29", 30);
            } else if (request) {
                t.answered("OP " + op + " of three bytes", 1, op, 0, 0, 4);
            } else if (answer || op == 27 || op == 30 || (op & 64) != 0) {
                t.answered("OP " + op);
            } else {
                t.answered("OP " + op, 1, op, 0, 0, 6);
            }
            due("written by 18 and 82 alone", t.x.value(1, 1, NONE), op == 18 || op == 82 ? 0 : 2);
            due("told of by 27 and 29", t.x.x.completion(1, 0), op == 27 ? 16 : op == 29 ? 17 : NONE);
        }
    }

    /** "a VALUE (0 to 40 bytes)"; "18 with more than 40 bytes: 13". */
    private static void valuesOfForty() {
        for (int n = 39; n <= 42; n++) {
            BoundsTest t = linkedByMtu(64, run(5));
            t.bytes(run(n));
            t.x.send(0, 0, 1);
            t.x.tick(6);
            due("an 82", t.x.value(1, 1, NONE), n <= 40 ? n : 5);
            BoundsTest u = linkedByMtu(64, run(5));
            u.bytes(run(n));
            u.x.send(0, 0, 1);
            u.change(0, 4, 18);
            u.x.tick(4);
            if (n <= 40) {
                u.answered("an 18", 19);
            } else {
                u.answered("an 18 of " + n, 1, 18, 1, 0, 13);
            }
            due("an 18", u.x.value(1, 1, NONE), n <= 40 ? n : 5);
        }
    }

    /** "of 12 the place is beyond the VALUE: 7"; "12 at the VALUE's end gives no bytes". */
    private static void places() {
        for (int n : new int[] {0, 21, 22, 23, 39, 40}) {
            for (int place : new int[] {0, n - 1, n, n + 1, 40, 41, 65535}) {
                if (place < 0) {
                    continue;
                }
                BoundsTest t = new BoundsTest();
                t.attribute(0x2A00, 3, run(n));
                t.link(2, 200);
                t.bytes(place & 255, place >> 8);
                t.x.send(0, 0, 1);
                t.change(0, 4, 12);
                t.x.tick(2);
                if (place > n) {
                    t.answered("place " + place + " of " + n, 1, 12, 1, 0, 7);
                } else {
                    int[] want = new int[1 + Math.min(22, n - place)];
                    want[0] = 13;
                    for (int i = 1; i < want.length; i++) {
                        want[i] = place + i;
                    }
                    t.answered("place " + place + " of " + n, want);
                }
            }
        }
    }

    /** A request of the CENTRAL, made of an 82: its OP, then HANDLE 1 and bytes. */
    private void request(int op, int... bytes) {
        bytes(bytes);
        x.send(0, 0, 1);
        change(0, 4, op);
        x.tick(2);
    }

    /** "22 with six parts that wait: 9"; "a place beyond the VALUE as it would be then: 7"; "more than 40 bytes: 13". */
    private static void sixParts() {
        BoundsTest t = new BoundsTest();
        t.attribute(0x2A00, 3, run(5));
        t.link(2, 2000);
        for (int i = 1; i <= 6; i++) {
            t.request(22, 5 + i, 0, i);
            t.answered("part " + i, 23, 1, 0, 5 + i, 0, i);
            due("parts", t.seen(1, 20), i);
        }
        t.request(22, 0, 0, 7);
        t.answered("a seventh one", 1, 22, 1, 0, 9);
        due("parts", t.seen(1, 20), 6);
        due("nothing is written as yet", t.x.value(1, 1, NONE), 5);
        t.executeByJob();
        t.came(0, 9, 24, 1, 7, 0);
        due("place 6 is beyond 5 bytes", t.x.value(1, 1, NONE), 5);
        due("parts are gone", t.seen(1, 20), 0);
        int[][][] parts = {
            {{5, 0, 1}, {6, 0, 2}, {7, 0, 3}, {0}},
            {{6, 0, 1}, {7}},
            {{5, 0}, {5, 0}, {0}},
            {{6, 0}, {7}},
            {{0, 0, 9}, {0}},
            {{255, 255}, {7}},
        };
        for (int[][] p : parts) {
            BoundsTest u = new BoundsTest();
            u.attribute(0x2A00, 3, run(5));
            u.link(2, 2000);
            for (int i = 0; i < p.length - 1; i++) {
                u.request(22, p[i]);
            }
            int code = p[p.length - 1][0];
            due("parts", u.seen(1, 20), p.length - 1);
            u.executeByJob();
            due("written or not", u.x.value(1, 1, NONE), code == 0 ? 21 : 5);
            u.came(0, code == 0 ? 5 : 9, code == 0 ? 1 : 24, code == 0 ? 0 : 1, code, 0);
            due("parts are gone", u.seen(1, 20), 0);
        }
        for (int place = 34; place <= 36; place++) {
            BoundsTest u = new BoundsTest();
            u.attribute(0x2A00, 3, run(40));
            u.link(2, 2000);
            u.request(22, place, 0, 1, 2, 3, 4, 5);
            u.executeByJob();
            u.came(0, place < 36 ? 5 : 9, place < 36 ? 1 : 24, place < 36 ? 0 : 1, place < 36 ? 0 : 13, 0);
            due("what is behind stays", u.x.value(1, 1, 39), place == 35 ? 5 : 40);
            due("40 bytes", u.x.value(1, 1, NONE), 40);
            due("the part is written, or nothing is", u.x.value(1, 1, 38), place == 34 ? 5 : place == 35 ? 4 : 39);
            due("nor the others", u.x.value(1, 1, 0), 1);
        }
    }

    /** A JOB 5 of 21 bytes 1, 2, .. to HANDLE 1: two parts more (if there is room), and a 24. */
    private void executeByJob() {
        if (x.x.device(1, 20) > 4) {
            runExecute();
            return;
        }
        bytes(run(21));
        x.job(0, 5, 1, 0);
        x.tick(12);
    }

    /** With six parts there is no room for those of a JOB: the answers to its 22s are told to it. */
    private void runExecute() {
        bytes(run(21));
        x.job(0, 5, 1, 0);
        for (int i = 0; i < 2; i++) {
            int[] error = Both.plain(x.peek(1, 2));
            due("an ERROR", error[6], 1);
            int[] shall = error.clone();
            shall[6] = 23;
            CHECK.due("it can be forged", x.forge(1, error, shall), true);
            x.tick(2);
        }
        x.tick(2);
    }

    /** "those of 4, 6, 8, 16 as many of the ATTRIBUTES from .. to, upwards, as go in whole". */
    private static void rowsThatFit() {
        for (int mtu = 23; mtu <= 64; mtu++) {
            BoundsTest t = new BoundsTest();
            t.x.mtu(0, mtu);
            t.x.mtu(1, mtu);
            for (int h = 1; h <= 20; h++) {
                t.attribute(0x2800, 1, 7, 7);
            }
            t.link(2, 2000);
            t.agree();
            int[][] kinds = {{1, 2, 6}, {3, 2, 4}, {6, 1, 4}};
            for (int[] k : kinds) {
                t.bytes(7, 7);
                t.x.job(0, k[0], 1, 65535);
                int rows = Math.min(20, (mtu - k[1]) / k[2]);
                for (int i = 0; i < 20 && t.x.x.completion(0, 0) == NONE; i++) {
                    t.x.tick(1);
                }
                due("rows of " + k[0] + " with MTU " + mtu, t.seen(0, 24), rows);
                t.x.tick(100);
                t.drop(0);
            }
        }
        int[][] values = {{18, 1}, {19, 1}, {20, 1}, {40, 1}, {8, 2}, {9, 1}, {5, 3}, {0, 10}};
        for (int[] v : values) {
            BoundsTest t = new BoundsTest();
            for (int h = 1; h <= 12; h++) {
                t.attribute(0x2803, 1, run(v[0]));
            }
            t.link(2, 2000);
            t.x.job(0, 2, 1, 12);
            t.x.tick(2);
            int[] answer = t.sent(1);
            int width = 2 + Math.min(19, v[0]);
            due("a 9", answer[6], 9);
            due("how many bytes each has", answer[7], width);
            due("rows", t.x.x.completion(0, 4) == NONE ? NONE : t.seen(0, 24), v[1]);
            due("bytes", answer[2], 2 + width * v[1]);
        }
        int[][] groups = {{16, 17}, {17, 18}, {17, 40}, {18, 40}};
        for (int[] g : groups) {
            BoundsTest t = new BoundsTest();
            t.x.mtu(0, 64);
            t.x.mtu(1, 64);
            t.attribute(0x2803, 1, run(Math.min(40, g[0] + 2)));
            t.attribute(0x2803, 1, run(Math.min(40, g[1] + 2)));
            t.attribute(0x2800, 1, run(g[0]));
            t.attribute(0x2800, 1, run(g[1]));
            t.link(2, 2000);
            for (int kind = 1; kind <= 2; kind++) {
                t.x.job(0, kind, 1, 4);
                t.x.tick(2);
                due("how many bytes each has", t.sent(1)[7], Math.min(21, g[0] + 4));
                due("one row goes in", t.seen(0, 24), 1);
                t.x.tick(12);
                t.came(0, kind, kind == 1 ? 3 : 1, kind == 1 ? 3 : 0, 0, Math.min(21, g[0] + 4) - (kind == 1 ? 4 : 2));
                t.came(0, kind, kind == 1 ? 4 : 2, kind == 1 ? 4 : 0, 0, Math.min(21, g[1] + 4) - (kind == 1 ? 4 : 2));
                t.came(0, 8, kind, 0, 0, 0);
            }
        }
        for (int mtu = 45; mtu <= 48; mtu++) {
            BoundsTest t = new BoundsTest();
            t.x.mtu(0, mtu);
            t.x.mtu(1, mtu);
            t.attribute(0x2803, 1, run(40));
            t.attribute(0x2803, 1, run(40));
            t.attribute(0x2800, 1, run(40));
            t.link(2, 2000);
            t.agree();
            t.x.job(0, 2, 1, 3);
            t.x.tick(4);
            due("all of a VALUE with MTU " + mtu, t.x.x.completion(0, 4), 40);
            t.drop(0);
            t.x.tick(20);
            t.drop(0);
            t.x.job(0, 1, 0, 0);
            t.x.tick(4);
            due("MTU - 6 at most with MTU " + mtu, t.x.x.completion(0, 4), Math.min(40, mtu - 6));
        }
    }

    /** "END of a HANDLE: that ahead of the next one of TYPE 0x2800 or 0x2801, or the last one." */
    private static void endsOfHandles() {
        int[][] types = {{0x2800}, {0x2800, 0x2800}, {0x2800, 0x2801}, {0x2800, 0x2802, 0x27FF, 0x2803}, {0x2800, 0x2803, 0x2801, 0x2800}};
        int[][] ends = {{1, 1}, {1, 1, 2, 2}, {1, 1}, {1, 4}, {1, 2, 4, 4}};
        for (int i = 0; i < types.length; i++) {
            for (int kind : new int[] {1, 6}) {
                BoundsTest t = new BoundsTest();
                for (int type : types[i]) {
                    t.attribute(type, 1);
                }
                t.link(2, 2000);
                t.x.end(0);
                t.x.job(0, kind, 0, 0);
                t.x.tick(20);
                for (int k = 0; k < ends[i].length; k += 2) {
                    t.came(0, kind, ends[i][k], ends[i][k + 1], 0, 0);
                }
                t.came(0, 8, kind, 0, 0, 0);
            }
        }
    }

    // ---- part 8 ----

    private static void partEight() {
        int[][] reads = {{23, 0, 1}, {23, 21, 1}, {23, 22, 2}, {23, 23, 2}, {23, 40, 2}, {24, 22, 1}, {24, 23, 2}, {40, 38, 1},
            {40, 39, 2}, {41, 40, 2}, {42, 40, 1}, {64, 40, 1}};
        for (int[] r : reads) {
            reads(r[0], r[1], r[2]);
        }
        int[][] writes = {{23, 0, 1}, {23, 19, 1}, {23, 20, 1}, {23, 21, 3}, {23, 36, 3}, {23, 37, 4}, {23, 40, 4}, {42, 39, 1},
            {42, 40, 3}, {43, 40, 1}, {64, 40, 1}};
        for (int[] w : writes) {
            writes(w[0], w[1], w[2]);
        }
        fortyWhateverComes(60, 4);
        fortyWhateverComes(61, 9);
        lastHandles();
        thirtyTwoAreKept();
        fortyBytesOfACompletion();
        answersOfOtherBytes();
    }

    /** "12 .., as long as an answer had MTU - 1 bytes of VALUE": so many requests. */
    private static void reads(int mtu, int n, int requests) {
        BoundsTest t = linkedByMtu(mtu, run(n));
        t.x.job(0, 4, 1, 0);
        due("requests for " + n + " with MTU " + mtu, t.packetsWithBytes(20), requests);
        due("the last byte", t.x.x.completion(0, 10 + n - 1), n == 0 ? NONE : n);
        due("behind it", t.x.x.completion(0, 10 + n), NONE);
        t.came(0, 4, 1, 0, 0, n);
        t.came(0, 8, 4, 0, 0, 0);
        t.nothingElse(0);
    }

    /** "12 with a place behind all that are kept (40 at most, whatever comes)": an answer of n + 2 bytes of VALUE. */
    private static void fortyWhateverComes(int n, int kind) {
        BoundsTest t = linkedByMtu(64, run(2));
        t.bytes(run(n));
        t.x.send(1, 0, 1);
        t.x.job(0, 4, 1, 0);
        t.change(1, 4, 11);
        t.x.tick(20);
        if (kind == 4) {
            t.came(0, 4, 1, 0, 0, 40, NONE, NONE, NONE, NONE, NONE, 1, 0, 1, 2);
            t.came(0, 8, 4, 0, 0, 0);
        } else {
            t.came(0, 9, 12, 1, 7, 0);
        }
        t.nothingElse(0);
    }

    /** "18, if they are MTU - 3 at most, else 22 by MTU - 5 bytes each, then 24 with 1": so many requests. */
    private static void writes(int mtu, int n, int requests) {
        BoundsTest t = linkedByMtu(mtu, run(40));
        t.bytes(run(n));
        CHECK.due("job", t.x.job(0, 5, 1, 0), true);
        due("the TAPE is empty then", t.x.x.byteOf(0, 4, 0), NONE);
        int begun = 0;
        for (int i = 0; i < 30; i++) {
            if (t.x.tick(1) > 0 && (t.sent(0)[0] & 3) == 2) {
                begun++;
            }
        }
        due("requests for " + n + " with MTU " + mtu, begun, requests);
        t.came(0, 5, 1, 0, 0, 0);
        t.came(0, 8, 5, 0, 0, 0);
        t.nothingElse(0);
        due("written", t.x.value(1, 1, NONE), requests == 1 ? n : 40);
    }

    /** "on from the last HANDLE and 1, if that is not above b". */
    private static void lastHandles() {
        int[][] jobs = {{2, 3, 1}, {2, 4, 2}, {2, 65535, 2}, {3, 3, 1}, {3, 4, 2}, {3, 65535, 2}, {1, 0, 2}, {6, 0, 2}};
        for (int[] j : jobs) {
            BoundsTest t = new BoundsTest();
            for (int h = 1; h <= 3; h++) {
                t.attribute(j[0] == 2 ? 0x2803 : 0x2800, 1, 7, 8);
            }
            t.link(2, 200);
            t.bytes(7, 8);
            t.x.job(0, j[0], 1, j[1]);
            due("requests of " + j[0] + " up to " + j[1], t.packetsWithBytes(12), j[2]);
            for (int h = 1; h <= 3; h++) {
                t.came(0, j[0], h, j[0] == 2 ? 0 : j[0] == 3 ? 0x2800 : h, 0, j[0] < 3 ? 2 : 0);
            }
            t.came(0, 8, j[0], 0, 0, 0);
        }
    }

    /** "32 are kept for each device, more are lost". */
    private static void thirtyTwoAreKept() {
        BoundsTest t = new BoundsTest();
        for (int h = 1; h <= 20; h++) {
            t.attribute(h, 1, h);
        }
        t.link(2, 200);
        t.x.job(0, 3, 1, 20);
        t.x.tick(40);
        due("20 and one", t.seen(0, 24), 21);
        due("none is lost", t.seen(0, 25), 0);
        t.x.job(0, 3, 10, 20);
        t.x.tick(40);
        due("32", t.seen(0, 24), 32);
        due("the last COMPLETION is lost", t.seen(0, 25), 1);
        t.x.control(0, 1);
        t.x.tick(4);
        due("32", t.seen(0, 24), 32);
        due("one more is lost", t.seen(0, 25), 2);
        due("of the other one none", t.seen(1, 25), 0);
        CHECK.due("take", t.x.take(0), true);
        t.x.control(0, 1);
        t.x.tick(4);
        due("32 again", t.seen(0, 24), 32);
        due("no more is lost", t.seen(0, 25), 2);
        for (int h = 2; h <= 20; h++) {
            t.came(0, 3, h, h, 0, 0);
        }
        t.came(0, 8, 3, 0, 0, 0);
        for (int h = 10; h <= 20; h++) {
            t.came(0, 3, h, h, 0, 0);
        }
        t.came(0, 15, 0, 0, 0, 8);
        t.nothingElse(0);
        CHECK.due("none is kept", t.x.take(0), false);
    }

    /** "A COMPLETION has .. 40 bytes at most". */
    private static void fortyBytesOfACompletion() {
        for (int n : new int[] {0, 39, 40}) {
            BoundsTest t = new BoundsTest();
            t.x.mtu(0, 64);
            t.x.mtu(1, 64);
            t.attribute(0x2800, 1, run(n));
            t.attribute(0x2803, 1, run(n));
            t.link(2, 200);
            t.agree();
            t.x.send(1, 1, 1);
            t.x.tick(8);
            t.hasBytes(n, 16, 1, 0);
            t.x.send(1, 2, 2);
            t.x.tick(8);
            t.hasBytes(n, 17, 2, 0);
            t.came(1, 18, 0, 0, 0, 0);
            t.x.job(0, 1, 0, 0);
            t.x.tick(8);
            t.hasBytes(n, 1, 1, 2);
            t.drop(0);
            t.x.job(0, 2, 1, 2);
            t.x.tick(8);
            t.hasBytes(n, 2, 2, 0);
        }
        BoundsTest u = linkedByMtu(64, run(1));
        u.bytes(run(61));
        u.x.send(0, 0, 9);
        u.change(0, 4, 27);
        u.x.tick(8);
        due("byte 39", u.x.x.completion(1, 49), 40);
        due("no byte 40", u.x.x.completion(1, 50), NONE);
        u.came(1, 16, 9, 0, 0, 40);
    }

    private void hasBytes(int n, int kind, int first, int second) {
        due("byte " + (n - 1), x.x.completion(0, 10 + n - 1), n == 0 ? NONE : n);
        due("byte " + n, x.x.completion(0, 10 + n), NONE);
        due("byte -1", x.x.completion(0, 9), NONE);
        came(0, kind, first, second, 0, n);
    }

    /** "so are answers with other bytes than they have": the JOB goes on waiting. */
    private static void answersOfOtherBytes() {
        int[][] rows = {{1, 3, 0}, {1, 4, 1}, {1, 5, 0}, {1, 6, 1}, {1, 12, 1}, {1, 13, 0}, {1, 0, 0}, {2, 0, 0}, {2, 1, 0},
            {2, 2, 1}, {2, 3, 0}, {2, 4, 1}, {2, 8, 1}, {2, 9, 0}, {3, 0, 0}, {3, 1, 1}, {3, 2, 0}};
        for (int[] r : rows) {
            BoundsTest t = new BoundsTest();
            for (int h = 1; h <= 2; h++) {
                t.attribute(r[0] == 2 ? 0x2803 : 0x2800, 1, 7, 8);
            }
            t.link(2, 200);
            t.x.job(0, r[0], 1, 2);
            t.change(1, 5, r[1]);
            t.x.tick(2);
            due("JOB " + r[0] + " with rows of " + r[1], t.x.x.completion(0, 0), r[2] == 1 ? r[0] : NONE);
            if (r[2] == 0) {
                due("it waits", t.seen(0, 19), r[0]);
            }
        }
        for (int op = 0; op < 32; op++) {
            BoundsTest t = new BoundsTest();
            t.attribute(0x2A00, 3, 1, 2);
            t.link(2, 200);
            t.x.job(0, 4, 1, 0);
            if (op != 11) {
                t.change(1, 4, op);
            }
            t.x.tick(2);
            due("a 10 is answered by an 11 alone, not by " + op, t.seen(0, 19), op == 11 ? NONE : 4);
        }
        for (int op = 0; op < 32; op++) {
            BoundsTest t = linked(2, 200);
            t.x.job(0, 4, 1, 0);
            if (op != 10) {
                t.change(1, 5, op);
            }
            t.x.tick(2);
            due("an ERROR with that OP, not with " + op, t.seen(0, 19), op == 10 ? NONE : 4);
        }
    }
}
