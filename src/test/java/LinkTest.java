/** What happens between the devices (parts 1 to 8), by runs with the answers that the document gives. */
public final class LinkTest extends Runs {
    private static final Check CHECK = new Check("LinkTest");

    private LinkTest() {
        super(CHECK);
    }

    public static void main(String[] args) {
        new LinkTest().lostPacketsAreSentAgain();
        new LinkTest().onlyTheAccessDecidesWhetherThereIsAnAnswer();
        new LinkTest().silenceEndsALink();
        new LinkTest().aConnectionThatIsNotHeard();
        connectionsThatAreNotProper();
        new LinkTest().unknownControl();
        new LinkTest().controlForTheOtherRole();
        new LinkTest().controlWhileMoreThanFourWait();
        new LinkTest().sixControlsWait();
        mapAtItsInstant(32767, 0);
        mapAtItsInstant(32768, 40);
        mapAtItsInstant(0, 40);
        new LinkTest().anImproperMapInPlaceOfAnother();
        new LinkTest().eventsGoRound();
        new LinkTest().endIsHeardOnce();
        new LinkTest().sealedPackets();
        new LinkTest().manySealedPackets();
        new LinkTest().aWrongMic();
        new LinkTest().noKeyThere();
        new LinkTest().aRefusalAheadOfTheRequest();
        new LinkTest().heldMessagesWait();
        new LinkTest().piecesOfMessages();
        longestMessage(92, 5);
        longestMessage(93, NONE);
        new LinkTest().piecesThatAreGone();
        new LinkTest().aMessageCutByTheEnd();
        new LinkTest().aMessageForNoChannel();
        new LinkTest().eightMessagesWait();
        new LinkTest().pairingStepByStep();
        new LinkTest().searches();
        for (int mtu = 23; mtu <= 28; mtu++) {
            new LinkTest().twentyAttributes(mtu);
        }
        new LinkTest().searchesThatFail();
        new LinkTest().rowsOfOneWidth();
        new LinkTest().readsAndWrites();
        new LinkTest().longWrites();
        new LinkTest().noBytesAtAll();
        new LinkTest().aValueThatGrowsShorter();
        new LinkTest().preparedParts();
        new LinkTest().requestsThatAreNone();
        CHECK.end();
    }

    private static void due(String what, long got, long want) {
        CHECK.due(what, got, want);
    }

    private void lostPacketsAreSentAgain() {
        link(3, 200);
        x.features(1, 0x55);
        x.control(0, 1);
        x.lose(0, 2);
        due("two go without answers", x.tick(6), 2);
        x.lose(1, 1);
        due("one is answered", x.tick(3), 2);
        due("that 9 is lost, so it stays", seen(1, 11), 3);
        due("its bytes", seen(1, 12), 9);
        due("the 8 stays, too", seen(0, 12), 9);
        nothingElse(0);
        x.tick(3);
        came(0, 15, 0, 0, 0, 8);
        nothingElse(0);
        x.tick(30);
        nothingElse(0);
    }

    private void onlyTheAccessDecidesWhetherThereIsAnAnswer() {
        link(2, 200);
        x.tick(4);
        x.noise(0, 32);
        due("not GOOD, but HEARD", x.tick(2), 2);
        due("not taken", seen(1, 26), 3);
        due("the answer is GOOD", seen(0, 26), 1);
        x.noise(0, 31);
        due("not HEARD", x.tick(2), 1);
        x.noise(1, 5);
        due("the answer is not HEARD", x.tick(2), 2);
        due("the CENTRAL did not take it", seen(0, 26), 5);
        due("the PERIPHERAL took one", seen(1, 26), 1);
        x.noise(0, 40);
        x.noise(0, 41);
        x.noise(0, 40);
        x.noise(0, 41);
        x.noise(0, 300);
        x.tick(2);
        due("nothing was turned over in the end", seen(1, 26), 1);
    }

    private void silenceEndsALink() {
        link(4, 50);
        x.tick(4);
        x.lose(1, 100);
        x.tick(49);
        due("CENTRAL still", seen(0, 0), 4);
        x.tick(1);
        came(0, 7, 8, 0, 0, 0);
        due("STANDBY", seen(0, 0), 0);
        due("PERIPHERAL still", seen(1, 0), 5);
        x.tick(60);
        came(1, 7, 8, 0, 0, 0);
        due("losses stay", seen(1, 27) > 0 ? 1 : 0, 1);
    }

    private void aConnectionThatIsNotHeard() {
        x.advertise(1, 5);
        x.connect(0, B, 9, 10, 7, ALL);
        x.lose(0, 1);
        due("it goes on advertising", x.tick(1), 4);
        due("ADVERTISING", seen(1, 0), 1);
        due("CENTRAL", seen(0, 0), 4);
        x.tick(53);
        due("six INTERVALS, TIMEOUT does not matter", seen(0, 0), 4);
        x.tick(1);
        came(0, 0, 4, 0, 0, 0);
        came(0, 7, 62, 0, 0, 0);
        due("STANDBY", seen(0, 0), 0);
    }

    private static void connectionsThatAreNotProper() {
        int[][] changes = {{6, 0}, {19, 1}, {19, 51}, {20, 1}, {21, 9, 22, 0}, {22, 8}, {23, 1, 24, 0, 25, 0, 26, 0, 27, 0},
            {27, 0x3F}, {28, 4}, {28, 17}};
        for (int[] c : changes) {
            LinkTest t = new LinkTest();
            t.x.advertise(1, 5);
            t.x.connect(0, B, 9, 200, 7, ALL);
            t.change(0, c);
            t.x.tick(1);
            due("not taken", t.seen(1, 0), 1);
        }
        LinkTest t = new LinkTest();
        t.x.advertise(1, 5);
        t.x.connect(0, B, 9, 200, 7, ALL);
        t.change(0, 19, 10, 0, 0x77);
        t.x.tick(1);
        due("taken as it came", t.seen(1, 5), 10);
        due("of the other one as it was told", t.seen(0, 5), 9);
        LinkTest u = new LinkTest();
        u.x.advertise(1, 5);
        u.x.connect(0, B, 9, 200, 7, ALL);
        int[] is = u.nextPacket(0);
        int[] shall = is.clone();
        shall[0] = 7;
        u.x.forge(0, is, shall);
        u.x.tick(1);
        due("of first byte 5 alone", u.seen(1, 0), 1);
        LinkTest v = new LinkTest();
        v.x.scan(0);
        v.x.advertise(1, 5);
        is = v.nextPacket(1);
        shall = is.clone();
        shall[0] = 64;
        v.x.forge(1, is, shall);
        v.x.tick(1);
        due("of first byte 0 alone", v.seen(0, 21), 0);
    }

    private void unknownControl() {
        link(2, 200);
        x.control(0, 2);
        change(0, 0, 11);
        x.tick(8);
        came(0, 19, 11, 0, 0, 0);
        came(0, 7, 22, 0, 0, 0);
        due("it was no 2 there", seen(1, 0), 5);
    }

    private void controlForTheOtherRole() {
        link(2, 200);
        x.control(1, 1);
        x.tick(2);
        x.tick(8);
        came(1, 15, 0, 0, 0, 8);
        x.control(0, 0);
        x.tick(8);
        drop(0);
        drop(1);
        x.control(1, 2);
        change(1, 0, 13, 1, 9);
        x.tick(2);
        nothingElse(0);
        x.tick(4);
        nothingElse(0);
        due("a 13 that was not asked for does nothing; the 2 is ACKNOWLEDGED", seen(1, 0), 0);
        LinkTest t = new LinkTest();
        t.link(2, 200);
        t.x.control(0, 2);
        t.change(0, 0, 13, 1, 9);
        t.x.tick(2);
        due("a PERIPHERAL sends a 7 for a 13", t.x.o.dev[1].s.pdu[0], 7);
        t.came(0, 19, 13, 0, 0, 0);
        LinkTest u = new LinkTest();
        u.link(2, 200);
        u.x.control(0, 2);
        u.change(0, 0, 7, 1, 77);
        u.x.tick(2);
        u.came(1, 19, 77, 0, 0, 0);
    }

    private void controlWhileMoreThanFourWait() {
        link(2, 200);
        x.features(1, 1);
        for (int i = 0; i < 5; i++) {
            x.control(1, 1);
        }
        x.control(0, 1);
        x.tick(2);
        due("the 8 of the other one was passed over, one was taken", seen(1, 9), 4);
        x.tick(40);
        nothingElse(0);
        for (int i = 0; i < 5; i++) {
            came(1, 15, 0, 0, 0, 8);
        }
    }

    private void sixControlsWait() {
        link(2, 200);
        x.allow(1, 1);
        x.pair(0, 1);
        x.tick(40);
        drop(0);
        drop(1);
        for (int i = 0; i < 5; i++) {
            x.control(1, 1);
        }
        x.lose(1, 1);
        x.tick(2);
        due("four wait", seen(1, 9), 4);
        x.encrypt(0);
        x.tick(2);
        due("four wait", seen(1, 9), 4);
        x.tick(2);
        due("a 4 and a 5 more, less the one that was taken", seen(1, 9), 5);
        x.tick(40);
        came(0, 12, 0, 0, 0, 0);
        came(1, 12, 0, 0, 0, 0);
        nothingElse(1);
    }

    /** A new MAP that comes with its INSTANT so far ahead of the EVENT, and the REASON that is due. */
    private static void mapAtItsInstant(int ahead, int reason) {
        LinkTest t = new LinkTest();
        t.link(2, 200);
        t.x.tick(6);
        int instant = t.seen(0, 1) + ahead;
        t.x.map(0, ALL);
        t.change(0, 6, instant & 255, 7, instant >> 8);
        t.x.tick(2);
        due("PERIPHERAL", t.seen(1, 0), reason == 0 ? 5 : 0);
        due("the REASON", t.x.x.completion(1, 1), reason == 0 ? NONE : reason);
    }

    private void anImproperMapInPlaceOfAnother() {
        link(2, 200);
        long other = ALL ^ 1L << 32;
        int event = seen(0, 1);
        x.map(0, ALL);
        change(0, 5, 0x1E, 6, event + 30);
        x.tick(20);
        x.map(0, ALL);
        change(0, 5, 0x3F);
        x.tick(60);
        due("none waits, so the MAP stays", x.x.number(1, 0), ALL);
        event = seen(0, 1);
        x.map(0, ALL);
        change(0, 5, 0x1E, 6, event + 20);
        x.tick(2 * 20);
        due("one waits", x.x.number(1, 0), ALL);
        x.tick(2);
        due("with EVENT its INSTANT it is the MAP", x.x.number(1, 0), other);
    }

    private void eventsGoRound() {
        link(2, 200);
        for (int i = 0; i < 131; i++) {
            x.tick(1000);
        }
        x.tick(64);
        due("EVENT", seen(0, 1), 65532);
        x.map(0, 3);
        x.tick(8);
        due("EVENT", seen(0, 1), 0);
        x.tick(8);
        due("EVENT", seen(1, 1), 4);
        due("the MAP waits", x.x.number(1, 0), ALL);
        x.tick(2);
        due("INSTANT", x.x.number(0, 0), 3);
        due("INSTANT", x.x.number(1, 0), 3);
        x.tick(20);
        due("both hear each other", seen(1, 26), seen(0, 26));
    }

    private void endIsHeardOnce() {
        link(5, 200);
        x.control(1, 2);
        x.tick(5);
        due("it comes with the next packet only", seen(0, 0), 4);
        x.lose(0, 1);
        x.tick(5);
        came(0, 7, 19, 0, 0, 0);
        due("which was lost, so that the PERIPHERAL waits", seen(1, 0), 5);
        x.tick(200);
        came(1, 7, 8, 0, 0, 0);
    }

    private void sealedPackets() {
        link(2, 200);
        secure();
        x.features(0, 0x0102030405060708L);
        x.control(0, 1);
        x.tick(1);
        x.tick(1);
        int[] access = new int[4];
        for (int i = 0; i < 4; i++) {
            access[i] = x.x.air(0, i);
        }
        int n = x.x.air(0, NONE);
        due("nine bytes and a MIC", n, 4 + 2 + 9 + 4 + 3);
        int[] all = new int[n - 4];
        for (int i = 4; i < n; i++) {
            all[i - 4] = x.x.air(0, i);
        }
        int[] plain = Oracle.whiten(all, x.x.air(0, -2));
        int[] session = new int[16];
        int[] iv = new int[8];
        for (int i = 0; i < 16; i++) {
            session[i] = x.x.byteOf(0, 2, i);
        }
        for (int i = 0; i < 8; i++) {
            iv[i] = x.x.byteOf(0, 3, i);
        }
        int[] nonce = Oracle.nonce(1, 1, iv);
        int[] open = Oracle.stream(session, nonce, Oracle.sub(plain, 2, 11));
        int[] want = {8, 8, 7, 6, 5, 4, 3, 2, 1};
        int[] mic = Oracle.mic(session, nonce, 3, want);
        for (int i = 0; i < 9; i++) {
            due("byte " + i, open[i], want[i]);
        }
        for (int i = 0; i < 4; i++) {
            due("MIC " + i, plain[11 + i], mic[i]);
        }
        due("an EMPTY one is not SEALED", seen(1, 15), 2);
        x.tick(10);
        due("an EMPTY one is not SEALED", seen(1, 15), 2);
        due("nor counted", seen(0, 15), 2);
    }

    private void manySealedPackets() {
        link(2, 200);
        secure();
        for (int i = 1; i <= 300; i++) {
            x.control(0, 1);
            x.tick(4);
            drop(0);
            due("sent SEALED", seen(0, 15), 1 + i);
            due("opened SEALED", seen(0, 16), 1 + i);
        }
    }

    private void aWrongMic() {
        link(2, 200);
        secure();
        x.control(0, 1);
        change(0, 3, nextPacket(0)[5] ^ 1);
        x.tick(2);
        came(1, 7, 61, 0, 0, 0);
        nothingElse(0);
        x.tick(200);
        came(0, 7, 8, 0, 0, 0);
        due("the KEY stays", x.x.byteOf(1, 1, 0) >= 0 ? 1 : 0, 1);
    }

    private void noKeyThere() {
        x.allow(1, 5);
        link(2, 60);
        x.pair(0, 5);
        for (int i = 0; i < 60 && x.o.device(0, 18) != 3; i++) {
            x.tick(1);
        }
        x.lose(1, 100);
        x.tick(200);
        x.lose(1, 0);
        drop(0);
        drop(1);
        due("the PERIPHERAL has a KEY", x.x.byteOf(1, 1, 0) >= 0 ? 1 : 0, 1);
        due("the CENTRAL has none", x.x.byteOf(0, 1, 0), NONE);
        x.advertise(0, 5);
        x.connect(1, A, 2, 60, 7, ALL);
        x.tick(9);
        due("CENTRAL now", seen(1, 0), 4);
        drop(0);
        drop(1);
        CHECK.due("encrypt", x.encrypt(1), true);
        x.tick(10);
        came(1, 13, 6, 0, 0, 0);
        due("not HELD", seen(1, 13), 0);
        due("not HELD there", seen(0, 13), 0);
        CHECK.due("once more", x.encrypt(1), true);
    }

    private void aRefusalAheadOfTheRequest() {
        link(2, 200);
        x.allow(1, 1);
        x.pair(0, 1);
        x.tick(40);
        drop(0);
        drop(1);
        x.control(0, 0);
        change(0, 0, 11);
        x.lose(1, 1);
        x.tick(2);
        x.encrypt(0);
        change(1, 0, 13, 1, 9);
        x.tick(2);
        came(0, 13, 9, 0, 0, 0);
        due("not HELD", seen(0, 13), 0);
        x.tick(4);
        due("the other one is HELD", seen(1, 13), 1);
        due("a 4 that it does not ask for any more", x.x.byteOf(0, 2, 0), NONE);
        due("a 5 without a 4", seen(0, 9), 0);
        nothingElse(0);
    }

    private void heldMessagesWait() {
        link(2, 200);
        x.allow(1, 123456);
        x.pair(0, 123456);
        x.tick(60);
        drop(0);
        drop(1);
        attribute(0x2A00, 1, 1, 2);
        x.tick(2);
        x.encrypt(0);
        x.job(0, 4, 1, 0);
        due("a message waits", seen(0, 10), 1);
        x.tick(4);
        due("it waits while HELD", seen(0, 10), 1);
        due("HELD", seen(0, 13), 1);
        x.tick(20);
        came(0, 12, 0, 0, 0, 0);
        came(0, 4, 1, 0, 0, 2, NONE, NONE, NONE, NONE, NONE, 1, 2);
        came(0, 8, 4, 0, 0, 0);
        due("SEALED: the 6 and the 10", seen(0, 15), 2);
    }

    private void piecesOfMessages() {
        x.mtu(0, 64);
        x.mtu(1, 64);
        attribute(0x2A00, 3, run(40));
        link(2, 200);
        x.job(0, 0, 0, 0);
        x.tick(12);
        drop(0);
        bytes(run(40));
        x.send(0, 0, 1);
        due("one waits", seen(0, 10), 1);
        x.tick(1);
        x.tick(1);
        due("a piece was taken, the message waits till its last one", seen(0, 10), 1);
        due("27 bytes and the rest", Both.plain(x.o.sky.get(0)).length, 29);
        due("it begins", Both.plain(x.o.sky.get(0))[0] & 3, 2);
        x.set(1, 1);
        x.tick(2);
        due("all is taken", seen(0, 10), 0);
        due("it goes on", Both.plain(x.o.sky.get(0))[0] & 3, 1);
        due("4 + 3 + 40 bytes in all", Both.plain(x.o.sky.get(0)).length, 2 + 20);
        due("written", x.value(1, 1, NONE), 40);
        x.send(0, 0, 1);
        change(0, 0, 2);
        x.tick(2);
        due("with more bytes than told it is gone", x.value(1, 1, NONE), 40);
        x.send(0, 0, 1);
        change(0, 0, 93);
        x.tick(2);
        due("told more than 92: gone", x.value(1, 1, NONE), 40);
        x.send(0, 0, 1);
        x.tick(2);
        due("the next one comes", x.value(1, 1, NONE), 0);
    }

    private void again(int sort) {
        int[] is = nextPacket(0);
        int[] shall = is.clone();
        shall[0] = is[0] & 252 | sort;
        x.forge(0, is, shall);
        x.tick(2);
    }

    private void piecesThatAreGone() {
        x.mtu(0, 64);
        x.mtu(1, 64);
        attribute(0x2A00, 3, 1);
        link(2, 200);
        x.job(0, 0, 0, 0);
        x.tick(12);
        bytes(run(40));
        x.send(0, 0, 1);
        change(0, 0, 30);
        x.tick(4);
        x.send(0, 0, 1);
        again(1);
        due("with more bytes than told it is gone, and what goes on with it", x.value(1, 1, NONE), 1);
        x.control(0, 2);
        int[] is = nextPacket(0);
        int[] shall = is.clone();
        shall[0] = is[0] & 252 | 2;
        shall[2] = 5;
        shall[3] = 0;
        x.lose(1, 2);
        x.forge(0, is, shall);
        x.tick(2);
        due("a first piece of two bytes is taken, and gone", seen(1, 26), 1);
        x.tick(2);
        nothingElse(1);
    }

    private void aMessageCutByTheEnd() {
        x.mtu(0, 64);
        x.mtu(1, 64);
        attribute(0x2A00, 3, 1);
        link(2, 200);
        x.job(0, 0, 0, 0);
        x.tick(12);
        bytes(run(40));
        x.send(0, 0, 1);
        x.tick(2);
        x.control(0, 2);
        x.tick(10);
        due("STANDBY", seen(0, 0), 0);
        due("no message", seen(0, 10), 0);
        link(2, 200);
        bytes(run(20));
        x.send(0, 0, 1);
        again(1);
        due("nothing was begun in this link", x.value(1, 1, NONE), 1);
        bytes(run(7));
        x.send(0, 0, 1);
        x.tick(2);
        due("the first piece begins", x.value(1, 1, NONE), 7);
    }

    /** Four messages go as the pieces of one: a request with far too many bytes, if it is whole. */
    private static void longestMessage(int told, int answerBytes) {
        LinkTest t = new LinkTest();
        t.link(2, 200);
        for (int i = 0; i < 4; i++) {
            t.bytes(run(i < 3 ? 20 : told - 84));
            t.x.send(0, 0, 1);
        }
        t.change(0, 0, told, 4, 10);
        t.x.tick(2);
        for (int i = 0; i < 3; i++) {
            int[] is = t.nextPacket(0);
            int[] shall = is.clone();
            shall[0] = is[0] & 252 | 1;
            t.x.forge(0, is, shall);
            t.x.tick(2);
        }
        int[] answer = Both.plain(t.x.o.sky.get(1));
        due("an ERROR, if it is whole", answer.length, answerBytes == NONE ? 2 : 2 + 4 + answerBytes);
        due("the program's, too", t.x.x.air(1, NONE), 4 + answer.length + 3);
    }

    private void aMessageForNoChannel() {
        attribute(0x2A00, 3, 1);
        link(2, 200);
        x.send(0, 0, 1);
        change(0, 2, 5);
        x.tick(4);
        due("channel 5 is none", x.value(1, 1, NONE), 1);
        x.send(0, 0, 1);
        int[] is = nextPacket(0);
        int[] shall = is.clone();
        shall[0] = is[0] & 252;
        x.forge(0, is, shall);
        x.tick(4);
        due("SORT 0 does nothing", x.value(1, 1, NONE), 1);
        x.send(0, 0, 1);
        is = nextPacket(0);
        shall = is.clone();
        shall[0] = is[0] & 252 | 1;
        x.forge(0, is, shall);
        x.tick(4);
        due("without anything begun it is passed over", x.value(1, 1, NONE), 1);
        x.send(0, 0, 1);
        x.tick(4);
        due("but now", x.value(1, 1, NONE), 0);
    }

    private void eightMessagesWait() {
        attribute(0x2A00, 3, 1);
        link(2, 200);
        for (int i = 0; i < 8; i++) {
            x.send(1, 1, 1);
        }
        x.job(0, 4, 1, 0);
        x.tick(60);
        due("the request was passed over", seen(0, 19), 4);
        for (int i = 0; i < 8; i++) {
            came(0, 16, 1, 0, 0, 1);
        }
        nothingElse(0);
    }

    private void pairingStepByStep() {
        x.allow(1, 77);
        link(2, 200);
        x.pair(0, 77);
        x.tick(2);
        due("step 2", seen(0, 18), 2);
        due("step 2", seen(1, 18), 2);
        due("a 3 is next", nextPacket(0)[6], 3);
        x.tick(2);
        due("step 3", seen(0, 18), 3);
        due("step 3", seen(1, 18), 3);
        x.tick(20);
        came(0, 10, 0, 0, 0, 0);
        came(1, 10, 0, 0, 0, 0);
        x.pair(0, 77);
        change(1, 5, 4);
        x.tick(30);
        came(1, 11, 4, 0, 0, 0);
        came(0, 11, 4, 0, 0, 0);
    }

    private void services() {
        attribute(0x2800, 1, 0x0A, 0x18);
        attribute(0x2803, 1, 2, 3, 0, 0x2A, 0);
        attribute(0x2A00, 3, run(40));
        attribute(0x2801, 1, 9, 9);
        attribute(0x2800, 1, 0x0F, 0x18);
        attribute(0x2803, 1, 2, 6, 0, 0x2A, 1);
        attribute(0x2A01, 7, 5);
        attribute(0x2800, 1, run(16));
        attribute(0x2A02, 2, 6);
    }

    private void searches() {
        services();
        link(2, 200);
        x.job(0, 1, 0, 0);
        x.tick(60);
        came(0, 1, 1, 3, 0, 2, NONE, NONE, NONE, NONE, NONE, 0x0A, 0x18);
        came(0, 1, 5, 7, 0, 2);
        came(0, 1, 8, 9, 0, 16);
        came(0, 8, 1, 0, 0, 0);
        x.job(0, 2, 1, 65535);
        x.tick(60);
        came(0, 2, 2, 0, 0, 5, NONE, NONE, NONE, NONE, NONE, 2, 3, 0, 0x2A, 0);
        came(0, 2, 6, 0, 0, 5);
        came(0, 8, 2, 0, 0, 0);
        x.job(0, 2, 1, 6);
        x.tick(20);
        came(0, 2, 2, 0, 0, 5);
        came(0, 2, 6, 0, 0, 5);
        came(0, 8, 2, 0, 0, 0);
        x.job(0, 3, 2, 8);
        x.tick(60);
        int[] types = {0, 0x2800, 0x2803, 0x2A00, 0x2801, 0x2800, 0x2803, 0x2A01, 0x2800, 0x2A02};
        for (int h = 2; h <= 8; h++) {
            came(0, 3, h, types[h], 0, 0);
        }
        came(0, 8, 3, 0, 0, 0);
        bytes(0x0F, 0x18);
        x.job(0, 6, 0, 0);
        x.tick(60);
        came(0, 6, 5, 7, 0, 0);
        came(0, 8, 6, 0, 0, 0);
        bytes(run(16));
        x.job(0, 6, 0, 0);
        x.tick(60);
        came(0, 6, 8, 9, 0, 0);
        came(0, 8, 6, 0, 0, 0);
        bytes(1, 2, 3);
        x.job(0, 6, 0, 0);
        x.tick(60);
        came(0, 8, 6, 0, 0, 0);
        nothingElse(0);
    }

    private void twentyAttributes(int mtu) {
        x.mtu(0, mtu);
        x.mtu(1, mtu);
        for (int h = 1; h <= 20; h++) {
            attribute(h > 10 ? 0x2803 : 0x2800, 3, 7, 7);
        }
        link(2, 400);
        x.job(0, 0, 0, 0);
        x.tick(20);
        came(0, 8, 0, 0, 0, 0);
        int[][] jobs = {{1, 1, 10}, {2, 11, 20}, {3, 1, 20}, {6, 1, 10}};
        for (int[] j : jobs) {
            bytes(7, 7);
            x.job(0, j[0], 1, 65535);
            for (int i = 0; i < 100; i++) {
                x.tick(1);
                x.look();
            }
            for (int h = j[1]; h <= j[2]; h++) {
                int second = j[0] == 2 ? 0 : j[0] == 3 ? h > 10 ? 0x2803 : 0x2800 : h == 10 ? 20 : h;
                came(0, j[0], h, second, 0, j[0] < 3 ? 2 : 0);
            }
            came(0, 8, j[0], 0, 0, 0);
        }
        bytes(1, 2, 3);
        x.job(0, 5, 20, 0);
        x.tick(20);
        came(0, 5, 20, 0, 0, 0);
        drop(0);
        x.job(0, 4, 20, 0);
        x.tick(20);
        came(0, 4, 20, 0, 0, 3);
    }

    private void searchesThatFail() {
        services();
        link(2, 200);
        x.job(0, 2, 0, 5);
        x.tick(20);
        came(0, 9, 8, 0, 1, 0);
        x.job(0, 3, 6, 5);
        x.tick(20);
        came(0, 9, 4, 6, 1, 0);
        x.job(0, 3, 10, 65535);
        x.tick(20);
        came(0, 8, 3, 0, 0, 0);
        bytes(run(17));
        x.job(0, 6, 0, 0);
        x.tick(20);
        came(0, 9, 6, 0, 4, 0);
        x.job(0, 1, 0, 0);
        change(0, 4 + 5, 2);
        x.tick(20);
        came(0, 9, 16, 1, 16, 0);
        x.job(1, 3, 1, 65535);
        x.tick(20);
        came(1, 8, 3, 0, 0, 0);
        nothingElse(0);
    }

    private void rowsOfOneWidth() {
        attribute(0x2803, 1, run(3));
        attribute(0x2803, 1, run(3));
        attribute(0x2803, 1, run(4));
        attribute(0x2803, 1, run(20));
        attribute(0x2803, 1, run(30));
        attribute(0x2803, 0, run(3));
        attribute(0x2803, 5, run(3));
        link(2, 200);
        x.job(0, 2, 1, 3);
        x.tick(40);
        came(0, 2, 1, 0, 0, 3);
        came(0, 2, 2, 0, 0, 3);
        came(0, 2, 3, 0, 0, 4);
        came(0, 8, 2, 0, 0, 0);
        x.job(0, 2, 4, 65535);
        x.tick(40);
        came(0, 2, 4, 0, 0, 19);
        came(0, 2, 5, 0, 0, 19);
        came(0, 9, 8, 6, 2, 0);
        x.job(0, 2, 7, 65535);
        x.tick(40);
        came(0, 9, 8, 7, 5, 0);
        secure();
        x.job(0, 2, 7, 65535);
        x.tick(40);
        came(0, 2, 7, 0, 0, 3);
        came(0, 8, 2, 0, 0, 0);
    }

    private void readsAndWrites() {
        services();
        link(2, 200);
        int[][] faults = {{10, 1}, {0, 1}, {9, 2}, {7, 5}};
        for (int[] f : faults) {
            x.job(0, 4, f[0], 0);
            x.tick(20);
            came(0, 9, 10, f[0], f[1], 0);
        }
        x.job(0, 4, 3, 0);
        x.tick(40);
        due("all of it", x.x.completion(0, 49), 40);
        came(0, 4, 3, 0, 0, 40);
        came(0, 8, 4, 0, 0, 0);
        int[][] writes = {{1, 18, 3}, {7, 18, 5}, {12, 18, 1}, {0, 18, 1}};
        for (int[] f : writes) {
            bytes(1, 2);
            x.job(0, 5, f[0], 0);
            x.tick(20);
            came(0, 9, f[1], f[0], f[2], 0);
        }
        bytes(run(20));
        x.job(0, 5, 3, 0);
        due("an 18", x.o.dev[0].s.jobOp, 18);
        x.tick(20);
        came(0, 5, 3, 0, 0, 0);
        came(0, 8, 5, 0, 0, 0);
        due("20 bytes", x.value(1, 3, NONE), 20);
        bytes(run(21));
        x.job(0, 5, 3, 0);
        due("a 22", x.o.dev[0].s.jobOp, 22);
        x.tick(2);
        due("a part waits", seen(1, 20), 1);
        x.tick(40);
        came(0, 5, 3, 0, 0, 0);
        came(0, 8, 5, 0, 0, 0);
        due("21 bytes", x.value(1, 3, NONE), 21);
        due("no part", seen(1, 20), 0);
        x.end(0);
        x.job(0, 5, 3, 0);
        x.tick(20);
        came(0, 5, 3, 0, 0, 0);
        due("no bytes", x.value(1, 3, NONE), 0);
    }

    private void longWrites() {
        x.mtu(0, 64);
        x.mtu(1, 64);
        attribute(0x2A00, 3, 1);
        link(2, 200);
        x.job(0, 0, 0, 0);
        x.tick(12);
        bytes(run(61));
        CHECK.due("MTU - 3", x.send(0, 0, 1), true);
        x.tick(6);
        due("an 82 of more than 40 bytes does nothing", x.value(1, 1, NONE), 1);
        bytes(run(62));
        CHECK.due("more than MTU - 3", x.send(0, 0, 1), false);
        x.end(41);
        x.send(0, 0, 1);
        change(0, 4, 18);
        x.tick(4);
        due("an 18 of more", Both.plain(x.o.sky.get(1))[10], 13);
        x.look();
        due("does nothing", x.value(1, 1, NONE), 1);
        bytes(run(40));
        x.send(0, 0, 1);
        x.tick(6);
        due("40 bytes do", x.value(1, 1, NONE), 40);
    }

    private void noBytesAtAll() {
        attribute(0x2800, 1);
        attribute(0x2803, 1);
        attribute(0x2A00, 3);
        link(2, 200);
        x.job(0, 6, 0, 0);
        x.tick(20);
        came(0, 6, 1, 3, 0, 0);
        came(0, 8, 6, 0, 0, 0);
        x.job(0, 1, 0, 0);
        x.tick(20);
        came(0, 1, 1, 3, 0, 0);
        came(0, 8, 1, 0, 0, 0);
        x.job(0, 2, 1, 3);
        x.tick(20);
        came(0, 2, 2, 0, 0, 0);
        came(0, 8, 2, 0, 0, 0);
        x.job(0, 4, 3, 0);
        x.tick(20);
        came(0, 4, 3, 0, 0, 0);
        came(0, 8, 4, 0, 0, 0);
    }

    private void aValueThatGrowsShorter() {
        attribute(0x2A00, 3, run(40));
        link(2, 200);
        x.job(0, 4, 1, 0);
        for (int i = 0; i < 20 && x.o.dev[0].s.jobOp != 12; i++) {
            x.tick(1);
        }
        bytes(run(5));
        x.set(1, 1);
        x.tick(20);
        came(0, 9, 12, 1, 7, 0);
        bytes(run(22));
        x.set(1, 1);
        x.job(0, 4, 1, 0);
        x.tick(20);
        came(0, 4, 1, 0, 0, 22);
        came(0, 8, 4, 0, 0, 0);
    }

    /** A JOB 5 of 40 bytes, up to where its request is to be sent that has this OP and place. */
    private void writeUpTo(int op, int place) {
        bytes(run(40));
        x.job(0, 5, 1, 0);
        for (int k = 0; k < 40 && (x.o.dev[0].s.jobOp != op || op == 22 && nextPacket(0)[9] != place); k++) {
            x.tick(1);
        }
    }

    private void preparedParts() {
        attribute(0x2A00, 3, run(30));
        link(2, 400);
        int[][] faults = {{31, 7}, {23, 13}};
        for (int[] f : faults) {
            writeUpTo(22, 18);
            change(0, 7, f[0]);
            x.tick(20);
            came(0, 9, 24, 1, f[1], 0);
            due("nothing is written", x.value(1, 1, NONE), 30);
            due("parts are gone", seen(1, 20), 0);
        }
        writeUpTo(22, 18);
        change(0, 7, 22);
        x.tick(20);
        came(0, 5, 1, 0, 0, 0);
        came(0, 8, 5, 0, 0, 0);
        due("written from its place on", x.value(1, 1, 22), 19);
        due("what is ahead of it stays", x.value(1, 1, 21), 22);
        due("40 bytes", x.value(1, 1, NONE), 40);
        writeUpTo(24, 0);
        change(0, 5, 0);
        bytes(9);
        x.set(1, 1);
        x.tick(20);
        came(0, 5, 1, 0, 0, 0);
        came(0, 8, 5, 0, 0, 0);
        due("a 24 with 0 writes nothing", x.value(1, 1, NONE), 1);
        due("parts are gone", seen(1, 20), 0);
        for (int i = 1; i <= 2; i++) {
            writeUpTo(24, 0);
            change(0, 4, 26);
            change(1, 5, 24);
            x.tick(2);
            came(0, 9, 24, 0, 6, 0);
            due("parts wait", seen(1, 20), 3 * i);
        }
        bytes(run(40));
        x.job(0, 5, 1, 0);
        x.tick(10);
        came(0, 9, 22, 1, 9, 0);
        due("six parts", seen(1, 20), 6);
        x.control(0, 2);
        x.tick(20);
        due("gone with the link", seen(1, 20), 0);
    }

    private void requestsThatAreNone() {
        attribute(0x2A00, 3, 1, 2);
        link(2, 200);
        int[] ops = {14, 20, 26, 28, 32};
        for (int op : ops) {
            x.send(0, 0, 1);
            change(0, 4, op);
            x.tick(2);
            due("an ERROR of five bytes", Both.plain(x.o.sky.get(1)).length, 2 + 4 + 5);
            due("for it", Both.plain(x.o.sky.get(1))[7], op);
            due("with code 6", Both.plain(x.o.sky.get(1))[10], 6);
            x.tick(2);
        }
        x.send(0, 0, 1);
        change(0, 4, 64);
        x.tick(2);
        due("none for one with bit 64", Both.plain(x.o.sky.get(1)).length, 2);
        x.send(0, 0, 1);
        change(0, 4, 2, 5, 22);
        x.tick(2);
        due("an MTU below 23", Both.plain(x.o.sky.get(1))[10], 4);
        x.tick(2);
        x.send(0, 0, 1);
        change(0, 4, 24);
        x.tick(2);
        due("other bytes than a 24 has", Both.plain(x.o.sky.get(1))[10], 4);
        x.tick(2);
        x.send(0, 0, 1);
        change(0, 4, 30);
        x.tick(2);
        due("a 30 with bytes does nothing", Both.plain(x.o.sky.get(1)).length, 2);
        nothingElse(1);
    }
}
