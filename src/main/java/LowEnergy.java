import java.util.NoSuchElementException;

/**
 * Two devices with a radio of low energy, from whitened bits to attributes.
 * All rows are made in the constructors and used again, so that no tick makes an object.
 */
public final class LowEnergy {
    public static final int NONE = -1;

    private static final int STANDBY = 0;
    private static final int ADVERTISING = 1;
    private static final int SCANNING = 2;
    private static final int INITIATING = 3;
    private static final int CENTRAL = 4;
    private static final int PERIPHERAL = 5;

    private static final int SORT_GOES_ON = 1;
    private static final int SORT_BEGINS = 2;
    private static final int SORT_CONTROL = 3;

    private static final int ATTRIBUTE_CHANNEL = 4;
    private static final int PAIRING_CHANNEL = 6;

    private static final int ADVERTISING_ACCESS = 0x8E89BED6;
    private static final int ADVERTISING_INIT = 0x555555;
    private static final int FIRST_ADVERTISING_CHANNEL = 37;
    private static final int LAST_ADVERTISING_CHANNEL = 39;
    private static final int DATA_CHANNELS = 37;
    private static final int ADDRESS_BYTES = 6;
    private static final long ADDRESS_BITS = 0xFFFFFFFFFFFFL;
    private static final int CONNECT_BYTES = 29;

    private static final int TAPE_ROOM = 100;
    private static final int VALUE_ROOM = 40;
    private static final int DATA_ROOM = 20;
    private static final int PDU_ROOM = 31;
    private static final int PIECE_ROOM = 27;
    private static final int MESSAGE_ROOM = 92;
    private static final int MESSAGES_ROOM = 8;
    private static final int LEAST_MTU = 23;
    private static final int GREATEST_MTU = 64;
    private static final int LAST_HANDLE = 65535;
    private static final int LAST_PASSKEY = 999999;

    private final Device[] devices = new Device[2];
    private final Air sky = new Air();
    private final Row tape = new Row(TAPE_ROOM);
    private final Row outgoing = new Row(PDU_ROOM);
    private int now;

    public LowEnergy(long first, long second) {
        Cipher cipher = new Cipher();
        devices[0] = new Device(0, first & ADDRESS_BITS, cipher);
        devices[1] = new Device(1, second & ADDRESS_BITS, cipher);
    }

    // ---- the tape and the devices as they are told to be ----

    public int feed(int a, int b, int c, int d, int e) {
        if (tape.size + 20 > TAPE_ROOM) {
            return NONE;
        }
        tape.putHighestFirst(a);
        tape.putHighestFirst(b);
        tape.putHighestFirst(c);
        tape.putHighestFirst(d);
        tape.putHighestFirst(e);
        return tape.size;
    }

    public int end(int n) {
        if (n < 0 || n > tape.size) {
            return NONE;
        }
        tape.cut(n);
        return n;
    }

    public boolean seed(int device, int x) {
        Device d = find(device);
        if (d == null) {
            return false;
        }
        d.x = x;
        return true;
    }

    public boolean advertise(int device, int interval) {
        Device d = find(device);
        if (d == null || d.state != STANDBY || interval < 5 || interval > 1000 || tape.size > DATA_ROOM) {
            return false;
        }
        d.state = ADVERTISING;
        d.interval = interval;
        d.next = now;
        d.advertised.become(tape);
        tape.clear();
        return true;
    }

    public boolean scan(int device) {
        Device d = find(device);
        if (d == null || d.state != STANDBY) {
            return false;
        }
        d.state = SCANNING;
        return true;
    }

    public boolean connect(int device, long address, int interval, int timeout, int hop, long map) {
        Device d = find(device);
        if (d == null || d.state != STANDBY || !Link.isProper(interval, timeout, hop, map)) {
            return false;
        }
        d.state = INITIATING;
        d.link.arrange(interval, timeout, hop, map);
        d.link.peer = address & ADDRESS_BITS;
        return true;
    }

    public boolean stop(int device) {
        Device d = find(device);
        if (d == null || d.state == STANDBY || d.inLink()) {
            return false;
        }
        d.state = STANDBY;
        return true;
    }

    public boolean noise(int device, int bit) {
        return find(device) != null && sky.disturbNext(device, bit);
    }

    public boolean lose(int device, int n) {
        return find(device) != null && sky.loseNext(device, n);
    }

    public boolean allow(int device, int passkey) {
        Device d = find(device);
        if (d == null || passkey < NONE || passkey > LAST_PASSKEY) {
            return false;
        }
        d.pairing.passkey = passkey;
        return true;
    }

    public boolean features(int device, long f) {
        Device d = find(device);
        if (d == null) {
            return false;
        }
        d.ownFeatures = f;
        return true;
    }

    public int attribute(int device, int type, int rights) {
        Device d = find(device);
        if (d == null || type < 0 || type > 65535 || rights < 0 || rights > 7 || tape.size > VALUE_ROOM) {
            return NONE;
        }
        int handle = d.server.addAttribute(type, rights, tape);
        if (handle != NONE) {
            tape.clear();
        }
        return handle;
    }

    public boolean set(int device, int handle) {
        Device d = find(device);
        Row kept = d == null ? null : d.server.valueOf(handle);
        if (kept == null || tape.size > VALUE_ROOM) {
            return false;
        }
        kept.become(tape);
        tape.clear();
        return true;
    }

    public boolean mtu(int device, int m) {
        Device d = find(device);
        if (d == null || m < LEAST_MTU || m > GREATEST_MTU) {
            return false;
        }
        d.server.ownMtu = m;
        return true;
    }

    // ---- what a link is asked for ----

    public boolean control(int device, int what) {
        Device d = find(device);
        if (d == null || !d.inLink() || !d.mayControl()) {
            return false;
        }
        switch (what) {
            case 0:
                if (d.mail.versionSent) {
                    return false;
                }
                d.mail.addVersion();
                return true;
            case 1:
                d.mail.newControl(8).putNumber(d.ownFeatures, 8);
                return true;
            case 2:
                d.mail.newControl(2).put(19);
                return true;
            default:
                return false;
        }
    }

    public boolean map(int device, long map) {
        Device d = find(device);
        if (d == null || d.state != CENTRAL || !d.mayControl() || d.link.mapWaits || !Link.isProperMap(map)) {
            return false;
        }
        d.link.awaitMap(map, (d.link.event + 8) & 0xFFFF);
        Row pdu = d.mail.newControl(1);
        pdu.putNumber(map, 5);
        pdu.putNumber(d.link.instant, 2);
        return true;
    }

    public boolean encrypt(int device) {
        Device d = find(device);
        if (d == null || d.state != CENTRAL || !d.guard.hasKey || d.guard.secure || !d.mayControl()) {
            return false;
        }
        d.guard.held = true;
        d.guard.asked = true;
        d.guard.hasSession = false;
        d.drawInto(d.guard.diversifier, 0, 8);
        d.drawInto(d.guard.iv, 0, 4);
        d.guard.putSessionParts(d.mail.newControl(3), 0);
        return true;
    }

    public boolean pair(int device, int passkey) {
        Device d = find(device);
        if (d == null || d.state != CENTRAL || d.pairing.step != 0 || d.mail.isFull()
                || passkey < 0 || passkey > LAST_PASSKEY) {
            return false;
        }
        d.draft.clear();
        d.pairing.start(passkey, d.draft);
        d.mail.post(PAIRING_CHANNEL, d.draft);
        return true;
    }

    public boolean job(int device, int kind, int a, int b) {
        Device d = find(device);
        if (d == null || !d.inLink() || d.client.kind != NONE || d.mail.isFull() || kind < 0 || kind > 6) {
            return false;
        }
        if (a < 0 || a > LAST_HANDLE || b < 0 || b > LAST_HANDLE) {
            return false;
        }
        boolean withTape = kind == 5 || kind == 6;
        if (withTape && tape.size > VALUE_ROOM) {
            return false;
        }
        d.client.begin(kind, a, b);
        if (withTape) {
            d.client.bytes.become(tape);
            tape.clear();
        }
        d.draft.clear();
        d.client.ask(d.client.firstHandle(), d.server, d.draft);
        d.mail.post(ATTRIBUTE_CHANNEL, d.draft);
        return true;
    }

    public boolean send(int device, int kind, int handle) {
        Device d = find(device);
        if (d == null || !d.inLink() || d.mail.isFull()) {
            return false;
        }
        int room = d.server.linkMtu - 3;
        if (kind == 0) {
            if (handle < 0 || handle > LAST_HANDLE || tape.size > room) {
                return false;
            }
            d.postValue(82, handle, tape, room);
            tape.clear();
            return true;
        }
        Row kept = d.server.valueOf(handle);
        if (kept == null || kind != 1 && kind != 2 || kind == 2 && d.server.waitsForConfirmation) {
            return false;
        }
        d.postValue(kind == 1 ? 27 : 29, handle, kept, room);
        if (kind == 2) {
            d.server.waitsForConfirmation = true;
        }
        return true;
    }

    public boolean take(int device) {
        Device d = find(device);
        return d != null && d.diary.dropFirst();
    }

    // ---- what is to be seen ----

    public int air(int k, int i) throws NoSuchElementException {
        int found = sky.figure(k, i);
        if (found == NONE) {
            throw new NoSuchElementException("no such packet or byte");
        }
        return found;
    }

    public int value(int device, int handle, int i) throws NoSuchElementException {
        Device d = find(device);
        Row kept = d == null ? null : d.server.valueOf(handle);
        if (kept == null || i < NONE || i >= kept.size) {
            throw new NoSuchElementException("no such value or byte");
        }
        return i == NONE ? kept.size : kept.at(i);
    }

    public int completion(int device, int what) {
        Device d = find(device);
        return d == null ? NONE : d.diary.figure(what);
    }

    public long number(int device, int what) {
        Device d = find(device);
        if (d == null) {
            return NONE;
        }
        switch (what) {
            case 0: return d.inLink() ? d.link.map : 0;
            case 1: return d.reportAddress;
            case 2: return d.address;
            default: return NONE;
        }
    }

    public int byteOf(int device, int what, int i) {
        Device d = find(device);
        if (d == null) {
            return NONE;
        }
        switch (what) {
            case 0: return d.reportData.at(i);
            case 1: return d.guard.hasKey ? byteAt(d.guard.key, i) : NONE;
            case 2: return d.guard.hasSession ? byteAt(d.guard.session, i) : NONE;
            case 3: return d.guard.hasSession ? byteAt(d.guard.iv, i) : NONE;
            case 4: return tape.at(i);
            default: return NONE;
        }
    }

    public int device(int device, int what) {
        Device d = find(device);
        if (d == null) {
            return NONE;
        }
        if (what >= 1 && what <= 8 || what == 26) {
            return linkFigure(d, what);
        }
        if (what >= 9 && what <= 20) {
            return talkFigure(d, what);
        }
        switch (what) {
            case 0: return d.state;
            case 21: return d.reports;
            case 22: return d.reportData.size;
            case 23: return d.server.count;
            case 24: return d.diary.count;
            case 25: return d.diary.lost;
            case 27: return sky.lossesOf(device);
            case 28: return flag(d.server.waitsForConfirmation);
            default: return NONE;
        }
    }

    private int linkFigure(Device d, int what) {
        if (!d.inLink()) {
            if (what == 8 && d.state == ADVERTISING) {
                return d.next - now;
            }
            return what == 2 ? NONE : 0;
        }
        Link link = d.link;
        switch (what) {
            case 1: return link.event;
            case 2: return link.channel;
            case 3: return link.sn;
            case 4: return link.nesn;
            case 5: return link.interval;
            case 6: return link.hop;
            case 7: return link.timeout;
            case 8: return link.anchor - now;
            default: return now - link.heardAt;
        }
    }

    private static int talkFigure(Device d, int what) {
        switch (what) {
            case 9: return d.mail.controlCount;
            case 10: return d.mail.messageCount;
            case 11: return d.mail.sort;
            case 12: return d.mail.current.size;
            case 13: return flag(d.guard.held);
            case 14: return flag(d.guard.secure);
            case 15: return d.guard.sent;
            case 16: return d.guard.opened;
            case 17: return d.server.linkMtu;
            case 18: return d.pairing.step;
            case 19: return d.client.kind;
            default: return d.server.partCount;
        }
    }

    private static int flag(boolean yes) {
        return yes ? 1 : 0;
    }

    private static int byteAt(int[] row, int i) {
        return i >= 0 && i < row.length ? row[i] : NONE;
    }

    private Device find(int device) {
        return device == 0 || device == 1 ? devices[device] : null;
    }

    // ---- time ----

    public int tick(int n) throws IllegalArgumentException {
        if (n < 1 || n > 1000) {
            throw new IllegalArgumentException("ticks are 1 to 1000");
        }
        int sent = 0;
        for (int i = 0; i < n; i++) {
            sky.clear();
            spread(devices[0], devices[1]);
            spread(devices[1], devices[0]);
            beginEvents();
            for (int c = 0; c < devices.length; c++) {
                Device central = devices[c];
                Device peripheral = devices[1 - c];
                if (reaches(central, peripheral)) {
                    if (bringsLetter(peripheral)) {
                        answer(peripheral);
                    }
                    sendPacket(peripheral);
                    if (bringsLetter(central)) {
                        answer(central);
                    }
                }
            }
            endEvents();
            endLinks();
            sent += sky.count;
            now++;
        }
        return sent;
    }

    private void spread(Device d, Device other) {
        if (d.state != ADVERTISING || d.next != now) {
            return;
        }
        d.next = now + d.interval + (d.draw() & 3);
        for (int c = FIRST_ADVERTISING_CHANNEL; c <= LAST_ADVERTISING_CHANNEL && d.state == ADVERTISING; c++) {
            outgoing.clear();
            outgoing.putNumber(d.address, ADDRESS_BYTES);
            outgoing.putPart(d.advertised, 0, d.advertised.size);
            sky.transmit(d.index, c, ADVERTISING_ACCESS, ADVERTISING_INIT, 0, outgoing);
            if (advertisementArrives(other, c)) {
                if (other.state == SCANNING) {
                    other.report(sky.payload);
                } else if (sky.payload.numberAt(0, ADDRESS_BYTES) == other.link.peer) {
                    initiate(other, d, c);
                }
            }
        }
    }

    private boolean advertisementArrives(Device listener, int channel) {
        return (listener.state == SCANNING || listener.state == INITIATING)
                && channel == FIRST_ADVERTISING_CHANNEL + now % 3
                && sky.isHeard(channel, ADVERTISING_ACCESS)
                && sky.isGood(channel, ADVERTISING_INIT)
                && sky.first == 0 && sky.payload.size >= ADDRESS_BYTES;
    }

    private void initiate(Device central, Device advertiser, int channel) {
        Link link = central.link;
        link.access = central.drawNumber(4);
        link.init = central.drawNumber(3);
        central.enterLink(CENTRAL, now);
        outgoing.clear();
        outgoing.putNumber(central.address, ADDRESS_BYTES);
        outgoing.putNumber(link.peer, ADDRESS_BYTES);
        outgoing.putNumber(link.access, 4);
        outgoing.putNumber(link.init, 3);
        outgoing.putNumber(link.interval, 2);
        outgoing.putNumber(link.timeout, 2);
        outgoing.putNumber(link.map, 5);
        outgoing.put(link.hop);
        sky.transmit(central.index, channel, ADVERTISING_ACCESS, ADVERTISING_INIT, 5, outgoing);
        if (sky.isHeard(channel, ADVERTISING_ACCESS) && sky.isGood(channel, ADVERTISING_INIT) && sky.first == 5
                && advertiser.accepts(sky.payload)) {
            advertiser.enterLink(PERIPHERAL, now);
        }
    }

    private void beginEvents() {
        for (int i = 0; i < devices.length; i++) {
            if (devices[i].hasEventAt(now)) {
                devices[i].link.hopOn();
            }
        }
    }

    /** Whether a central sends a packet now, and the peripheral hears it, be it good or not. */
    private boolean reaches(Device central, Device peripheral) {
        if (central.state != CENTRAL || !central.hasEventAt(now)) {
            return false;
        }
        sendPacket(central);
        return peripheral.state == PERIPHERAL && peripheral.hasEventAt(now)
                && sky.isHeard(peripheral.link.channel, peripheral.link.access);
    }

    private void endEvents() {
        for (int i = 0; i < devices.length; i++) {
            if (devices[i].hasEventAt(now)) {
                devices[i].link.pass();
            }
        }
    }

    private void endLinks() {
        for (int i = 0; i < devices.length; i++) {
            Device d = devices[i];
            int reason = d.inLink() ? d.link.reasonToEnd(now) : NONE;
            if (reason != NONE) {
                d.disconnect(reason);
            }
        }
    }

    private void sendPacket(Device d) {
        Link link = d.link;
        Mail mail = d.mail;
        link.giveReason(link.laterReason);
        if (mail.sort == 0) {
            mail.pickNext(d.guard.held);
            if (d.guard.sends && mail.current.size > 0) {
                d.guard.seal(mail.sort, mail.current, d.state == CENTRAL ? 1 : 0);
            }
        }
        int first = mail.sort + 4 * link.nesn + 8 * link.sn;
        sky.transmit(d.index, link.channel, link.access, link.init, first, mail.current);
    }

    /** Takes the latest packet, if it is good; whether a message is whole with it. */
    private boolean bringsLetter(Device d) {
        Link link = d.link;
        if (!sky.isHeard(link.channel, link.access) || !sky.isGood(link.channel, link.init)) {
            return false;
        }
        link.heardAt = now;
        link.heardGood = true;
        if (!isNew(d)) {
            return false;
        }
        if (d.guard.comes && !d.guard.open(sky.first, sky.payload, d.state == CENTRAL ? 0 : 1)) {
            link.giveReason(61);
            return false;
        }
        int sort = sky.first & 3;
        if (sort == SORT_CONTROL) {
            obey(d, sky.payload);
            return false;
        }
        return sort != 0 && d.mail.gather(sort, sky.payload);
    }

    /** Minds both sequence bits; whether the packet brings bytes that did not come before. */
    private boolean isNew(Device d) {
        Link link = d.link;
        if (d.mail.sort != 0 && (sky.first >> 2 & 1) != link.sn) {
            link.sn ^= 1;
            d.currentIsAcknowledged();
        }
        if ((sky.first >> 3 & 1) != link.nesn) {
            return false;
        }
        link.nesn ^= 1;
        return sky.payload.size > 0;
    }

    private static void answer(Device d) {
        Row message = d.mail.letter;
        Row reply = d.draft;
        reply.clear();
        if (d.mail.letterChannel == PAIRING_CHANNEL) {
            d.pairing.hear(d, message, reply);
        } else {
            int op = message.at(0);
            if (op <= 25 && (op & 1) == 1) {
                d.client.goOn(message, d.server, d.diary, reply);
            } else if (op == 27 || op == 29 || op == 30) {
                d.server.hearNotice(message, d.diary, reply);
            } else {
                d.server.serve(message, d.guard.secure, reply);
            }
        }
        if (reply.size > 0) {
            d.mail.post(d.mail.letterChannel, reply);
        }
    }

    // ---- control ----

    private static void obey(Device d, Row pdu) {
        int op = pdu.at(0);
        boolean ofCiphers = op >= 3 && op <= 6 || op == 13;
        if (d.mail.controlCount > 4 || d.guard.held && !ofCiphers && op != 2) {
            return;
        }
        if (pdu.size != controlSize(op) || !isForRole(op, d.state == CENTRAL)) {
            if (op != 7) {
                d.mail.newControl(7).put(op);
            }
            return;
        }
        if (!ofCiphers) {
            obeyLinkControl(d, op, pdu);
        } else if (!d.guard.secure) {
            obeyCipherControl(d, op, pdu);
        }
    }

    private static int controlSize(int op) {
        switch (op) {
            case 1: return 8;
            case 2: return 2;
            case 3: return 13;
            case 4: return 13;
            case 5: return 1;
            case 6: return 1;
            case 7: return 2;
            case 8: return 9;
            case 9: return 9;
            case 12: return 6;
            case 13: return 2;
            default: return NONE;
        }
    }

    private static boolean isForRole(int op, boolean central) {
        if (central) {
            return op != 1 && op != 3;
        }
        return op != 4 && op != 5 && op != 13;
    }

    private static void obeyLinkControl(Device d, int op, Row pdu) {
        switch (op) {
            case 1:
                d.link.hearMap(pdu.numberAt(1, 5), pdu.two(6));
                break;
            case 2:
                if (d.link.laterReason == NONE) {
                    d.link.laterReason = pdu.at(1);
                }
                break;
            case 7:
                d.diary.note(19, pdu.at(1), 0, 0);
                break;
            case 8:
                d.mail.newControl(9).putNumber(d.ownFeatures, 8);
                break;
            case 9:
                d.diary.noteBytes(15, 0, 0, pdu, 1, 8);
                break;
            case 12:
                d.diary.note(14, pdu.at(1), pdu.two(2), pdu.two(4));
                if (!d.mail.versionSent) {
                    d.mail.addVersion();
                }
                break;
            default:
                break;
        }
    }

    private static void obeyCipherControl(Device d, int op, Row pdu) {
        Guard guard = d.guard;
        switch (op) {
            case 3:
                answerSessionRequest(d, pdu);
                break;
            case 4:
                if (guard.asked) {
                    guard.takeSessionParts(pdu, 1);
                    guard.makeSession();
                }
                break;
            case 5:
                if (guard.hasSession) {
                    guard.beginSending();
                    guard.beginComing();
                    d.mail.newControl(6);
                }
                break;
            case 6:
                if (guard.comes) {
                    if (d.state == PERIPHERAL) {
                        guard.beginSending();
                        d.mail.newControl(6);
                    }
                    guard.secure = true;
                    guard.held = false;
                    d.diary.note(12, 0, 0, 0);
                }
                break;
            default:
                if (guard.asked) {
                    guard.asked = false;
                    guard.held = false;
                    d.diary.note(13, pdu.at(1), 0, 0);
                }
                break;
        }
    }

    private static void answerSessionRequest(Device d, Row pdu) {
        if (!d.guard.hasKey) {
            d.mail.newControl(13).put(6);
            return;
        }
        d.guard.held = true;
        d.guard.takeSessionParts(pdu, 0);
        d.drawInto(d.guard.diversifier, 8, 8);
        d.drawInto(d.guard.iv, 4, 4);
        d.guard.putSessionParts(d.mail.newControl(4), 1);
        d.mail.newControl(5);
        d.guard.makeSession();
    }

    /** Bytes, 0 to 255, one behind another; what it has no room for is left out. */
    private static final class Row {
        private final int[] bytes;
        private int size;

        Row(int room) {
            bytes = new int[Math.max(room, 0)];
        }

        void clear() {
            size = 0;
        }

        void cut(int n) {
            if (n >= 0 && n < size) {
                size = n;
            }
        }

        void put(int b) {
            if (size < bytes.length) {
                bytes[size] = b & 255;
                size++;
            }
        }

        void putNumber(long number, int count) {
            for (int i = 0; i < count && i < 8 && size < bytes.length; i++) {
                bytes[size] = (int) (number >>> 8 * i & 255);
                size++;
            }
        }

        void putHighestFirst(int number) {
            for (int shift = 24; shift >= 0 && size < bytes.length; shift -= 8) {
                bytes[size] = number >>> shift & 255;
                size++;
            }
        }

        void putPart(Row from, int start, int count) {
            int first = Math.max(start, 0);
            for (int i = first; i - first < count && i < from.size && size < bytes.length; i++) {
                bytes[size] = from.bytes[i];
                size++;
            }
        }

        void putBytes(int[] from) {
            for (int i = 0; i < from.length && size < bytes.length; i++) {
                bytes[size] = from[i];
                size++;
            }
        }

        void become(Row from) {
            size = 0;
            putPart(from, 0, from.size);
        }

        /** Writes one byte over another, or behind the last one. */
        void write(int i, int b) {
            if (i == size) {
                put(b);
            } else if (i >= 0 && i < size) {
                bytes[i] = b & 255;
            }
        }

        void turn(int i, int mask) {
            if (i >= 0 && i < size) {
                bytes[i] ^= mask & 255;
            }
        }

        int at(int i) {
            return i >= 0 && i < size ? bytes[i] : NONE;
        }

        int two(int i) {
            return i >= 0 && i < size - 1 ? bytes[i] | bytes[i + 1] << 8 : 0;
        }

        long numberAt(int start, int count) {
            long number = 0;
            for (int i = 0; i < count && i < 8; i++) {
                int place = start + i;
                if (place >= 0 && place < size) {
                    number |= (long) bytes[place] << 8 * i;
                }
            }
            return number;
        }

        void copyTo(int[] to, int start) {
            int first = Math.max(start, 0);
            for (int i = 0; i < to.length && first + i < size; i++) {
                to[i] = bytes[first + i];
            }
        }

        boolean isTailOf(Row other, int start) {
            if (start < 0 || other.size - start != size) {
                return false;
            }
            for (int i = 0; i < size; i++) {
                if (bytes[i] != other.bytes[start + i]) {
                    return false;
                }
            }
            return true;
        }
    }

    /** The packets of the latest tick, and what is to happen to the next ones. */
    private static final class Air {
        private static final int PACKETS_ROOM = 8;
        private static final int PACKET_ROOM = 40;
        private static final int NOISE_ROOM = 64;
        private static final int HEADER_AT = 4;
        private static final int PAYLOAD_AT = 6;
        private static final int CRC_BYTES = 3;

        private final Row[] packets = new Row[PACKETS_ROOM];
        private final int[] channels = new int[PACKETS_ROOM];
        private final int[][] noises = new int[2][NOISE_ROOM];
        private final int[] noiseCounts = new int[2];
        private final int[] losses = new int[2];
        private final Row plain = new Row(PACKET_ROOM);
        private final Row payload = new Row(PDU_ROOM);
        private int first;
        private int count;
        private boolean latestIsLost;

        Air() {
            for (int i = 0; i < packets.length; i++) {
                packets[i] = new Row(PACKET_ROOM);
            }
        }

        void clear() {
            count = 0;
        }

        boolean disturbNext(int who, int bit) {
            if (who < 0 || who > 1 || bit < 0 || bit >= 8 * PACKET_ROOM || noiseCounts[who] >= NOISE_ROOM) {
                return false;
            }
            noises[who][noiseCounts[who]] = bit;
            noiseCounts[who]++;
            return true;
        }

        boolean loseNext(int who, int n) {
            if (who < 0 || who > 1 || n < 0 || n > 100) {
                return false;
            }
            losses[who] = n;
            return true;
        }

        int lossesOf(int who) {
            return who == 0 || who == 1 ? losses[who] : NONE;
        }

        int figure(int k, int i) {
            if (k < 0 || k >= count || k >= packets.length) {
                return NONE;
            }
            if (i == -2) {
                return channels[k];
            }
            return i == NONE ? packets[k].size : packets[k].at(i);
        }

        void transmit(int who, int channel, int access, int init, int firstByte, Row bytes) {
            if (who < 0 || who > 1 || count >= packets.length) {
                return;
            }
            Row packet = packets[count];
            packet.clear();
            packet.putNumber(access, 4);
            packet.put(firstByte);
            packet.put(bytes.size);
            packet.putPart(bytes, 0, bytes.size);
            packet.putNumber(crcInOrder(packet, packet.size, init), CRC_BYTES);
            whiten(packet, channel);
            disturb(packet, who);
            channels[count] = channel;
            count++;
            latestIsLost = losses[who] > 0;
            if (latestIsLost) {
                losses[who]--;
            }
        }

        private void disturb(Row packet, int who) {
            for (int i = 0; i < noiseCounts[who] && i < NOISE_ROOM; i++) {
                int bit = noises[who][i];
                packet.turn(bit >> 3, 1 << (bit & 7));
            }
            noiseCounts[who] = 0;
        }

        boolean isHeard(int channel, int access) {
            int k = count - 1;
            return k >= 0 && k < packets.length && !latestIsLost && channels[k] == channel
                    && (int) packets[k].numberAt(0, 4) == access;
        }

        /** Of the latest packet, when it is heard; its first byte and its payload are kept. */
        boolean isGood(int channel, int init) {
            int k = count - 1;
            if (k < 0 || k >= packets.length) {
                return false;
            }
            plain.become(packets[k]);
            whiten(plain, channel);
            int end = plain.size - CRC_BYTES;
            first = plain.at(HEADER_AT);
            payload.clear();
            payload.putPart(plain, PAYLOAD_AT, end - PAYLOAD_AT);
            return plain.at(HEADER_AT + 1) == payload.size
                    && plain.numberAt(end, CRC_BYTES) == crcInOrder(plain, end, init);
        }

        private static void whiten(Row packet, int channel) {
            int r = 64 + channel;
            for (int i = HEADER_AT; i < packet.size; i++) {
                int mask = 0;
                for (int bit = 0; bit < 8; bit++) {
                    int lowest = r & 1;
                    mask |= lowest << bit;
                    r = r >> 1 ^ 68 * lowest;
                }
                packet.bytes[i] ^= mask;
            }
        }

        /** The CRC turned end for end: its bit 23 goes first, and bytes go from the lowest bit on. */
        private static int crcInOrder(Row packet, int end, int init) {
            int c = init & 0xFFFFFF;
            for (int i = HEADER_AT; i < end && i < packet.size; i++) {
                for (int bit = 0; bit < 8; bit++) {
                    int differs = (packet.bytes[i] >> bit ^ c >> 23) & 1;
                    c = c << 1 & 0xFFFFFF ^ 0x65B * differs;
                }
            }
            int turned = 0;
            for (int bit = 0; bit < 24; bit++) {
                turned |= (c >> 23 - bit & 1) << bit;
            }
            return turned;
        }
    }

    /** One of the two devices: what stays when a link ends, and the parts of its link. */
    private static final class Device {
        private final int index;
        private final long address;
        private int state;
        private int x;
        private int interval;
        private int next;
        private final Row advertised = new Row(DATA_ROOM);
        private int reports;
        private long reportAddress;
        private final Row reportData = new Row(PDU_ROOM);
        private long ownFeatures;
        private final Link link = new Link();
        private final Mail mail = new Mail();
        private final Guard guard;
        private final Pairing pairing;
        private final Server server = new Server();
        private final Client client = new Client();
        private final Diary diary = new Diary();
        private final Row draft = new Row(MESSAGE_ROOM);

        Device(int index, long address, Cipher cipher) {
            this.index = index;
            this.address = address;
            x = index;
            guard = new Guard(cipher);
            pairing = new Pairing(cipher);
        }

        int draw() {
            x = x * 1103515245 + 12345;
            return x >> 16 & 255;
        }

        int drawNumber(int count) {
            int number = 0;
            for (int i = 0; i < count && i < 4; i++) {
                number |= draw() << 8 * i;
            }
            return number;
        }

        void drawInto(int[] row, int start, int count) {
            for (int i = start; i - start < count && i >= 0 && i < row.length; i++) {
                row[i] = draw();
            }
        }

        boolean inLink() {
            return state == CENTRAL || state == PERIPHERAL;
        }

        boolean hasEventAt(int tick) {
            return inLink() && link.anchor == tick;
        }

        boolean mayControl() {
            return mail.controlCount <= 4 && !guard.held;
        }

        void report(Row payload) {
            reports++;
            reportAddress = payload.numberAt(0, ADDRESS_BYTES);
            reportData.clear();
            reportData.putPart(payload, ADDRESS_BYTES, payload.size);
        }

        boolean accepts(Row p) {
            if (p.size != CONNECT_BYTES || p.numberAt(ADDRESS_BYTES, ADDRESS_BYTES) != address) {
                return false;
            }
            int newInterval = p.two(19);
            int timeout = p.two(21);
            int hop = p.at(28);
            long map = p.numberAt(23, 5);
            if (!Link.isProper(newInterval, timeout, hop, map)) {
                return false;
            }
            link.peer = p.numberAt(0, ADDRESS_BYTES);
            link.access = (int) p.numberAt(12, 4);
            link.init = (int) p.numberAt(16, 3);
            link.arrange(newInterval, timeout, hop, map);
            return true;
        }

        void enterLink(int role, int tick) {
            state = role;
            link.begin(tick);
            diary.note(0, role, 0, 0);
        }

        void currentIsAcknowledged() {
            int op = mail.currentOp;
            mail.dropCurrent();
            if (op == 2) {
                link.giveReason(22);
            } else if (op == 5) {
                guard.beginComing();
            }
        }

        void postValue(int op, int handle, Row bytes, int most) {
            draft.clear();
            draft.put(op);
            draft.putNumber(handle, 2);
            draft.putPart(bytes, 0, most);
            mail.post(ATTRIBUTE_CHANNEL, draft);
        }

        void disconnect(int reason) {
            state = STANDBY;
            link.reset();
            mail.reset();
            guard.reset();
            pairing.step = 0;
            server.leaveLink();
            client.kind = NONE;
            diary.note(7, reason, 0, 0);
        }
    }

    /** What both ends of a link count and hop by. */
    private static final class Link {
        private int access;
        private int init;
        private int interval;
        private int timeout;
        private int hop;
        private long map;
        private long nextMap;
        private boolean mapWaits;
        private int instant;
        private int anchor;
        private int event;
        private int u;
        private int channel = NONE;
        private int heardAt;
        private boolean heardGood;
        private int sn;
        private int nesn;
        private int reason = NONE;
        private int laterReason = NONE;
        private long peer;

        static boolean isProper(int interval, int timeout, int hop, long map) {
            return interval >= 2 && interval <= 50 && timeout >= 10 && timeout <= 2000
                    && hop >= 5 && hop <= 16 && isProperMap(map);
        }

        static boolean isProperMap(long map) {
            return map >>> DATA_CHANNELS == 0 && Long.bitCount(map) >= 2;
        }

        void arrange(int newInterval, int newTimeout, int newHop, long newMap) {
            interval = newInterval;
            timeout = newTimeout;
            hop = newHop;
            map = newMap;
        }

        void begin(int tick) {
            anchor = tick + interval;
            heardAt = tick;
        }

        void reset() {
            mapWaits = false;
            event = 0;
            u = 0;
            channel = NONE;
            heardGood = false;
            sn = 0;
            nesn = 0;
            reason = NONE;
            laterReason = NONE;
        }

        void awaitMap(long newMap, int at) {
            nextMap = newMap;
            instant = at;
            mapWaits = true;
        }

        void hearMap(long newMap, int at) {
            int ahead = at - event & 0xFFFF;
            if (ahead < 1 || ahead > 32767) {
                giveReason(40);
            } else if (isProperMap(newMap)) {
                awaitMap(newMap, at);
            } else {
                mapWaits = false;
            }
        }

        void hopOn() {
            if (mapWaits && event == instant) {
                map = nextMap;
                mapWaits = false;
            }
            u = (u + hop) % DATA_CHANNELS;
            channel = channelFor(u, map);
        }

        private static int channelFor(int u, long map) {
            int n = Long.bitCount(map);
            if (n == 0 || (map >>> u & 1) == 1) {
                return u;
            }
            int left = u % n;
            for (int c = 0; c < DATA_CHANNELS; c++) {
                if ((map >>> c & 1) == 1) {
                    if (left == 0) {
                        return c;
                    }
                    left--;
                }
            }
            return u;
        }

        void pass() {
            event = event + 1 & 0xFFFF;
            anchor += interval;
        }

        void giveReason(int came) {
            if (reason == NONE) {
                reason = came;
            }
        }

        int reasonToEnd(int tick) {
            if (reason != NONE) {
                return reason;
            }
            int silence = tick - heardAt;
            if (heardGood) {
                return silence >= timeout ? 8 : NONE;
            }
            return silence >= 6 * interval ? 62 : NONE;
        }
    }

    /** What waits to be sent, the current PDU, and the message that comes in pieces. */
    private static final class Mail {
        private final Row current = new Row(PDU_ROOM);
        private int sort;
        private int currentOp;
        private final Row[] controls = new Row[6];
        private int controlHead;
        private int controlCount;
        private boolean versionSent;
        private final Row[] messages = new Row[MESSAGES_ROOM];
        private int messageHead;
        private int messageCount;
        private int placed;
        private final Row gathered = new Row(MESSAGE_ROOM + 4);
        private boolean begun;
        private final Row letter = new Row(MESSAGE_ROOM);
        private int letterChannel;
        private final Row spare = new Row(PDU_ROOM);

        Mail() {
            for (int i = 0; i < controls.length; i++) {
                controls[i] = new Row(PIECE_ROOM);
            }
            for (int i = 0; i < messages.length; i++) {
                messages[i] = new Row(MESSAGE_ROOM + 4);
            }
        }

        void reset() {
            dropCurrent();
            controlHead = 0;
            controlCount = 0;
            versionSent = false;
            messageHead = 0;
            messageCount = 0;
            placed = 0;
            begun = false;
        }

        void dropCurrent() {
            current.clear();
            sort = 0;
            currentOp = 0;
        }

        boolean isFull() {
            return messageCount >= MESSAGES_ROOM;
        }

        /** One more control PDU waits; its other bytes are put behind the op. */
        Row newControl(int op) {
            Row pdu = spare;
            if (controlCount < controls.length) {
                pdu = controls[(controlHead + controlCount) % controls.length];
                controlCount++;
            }
            pdu.clear();
            pdu.put(op);
            return pdu;
        }

        void addVersion() {
            Row pdu = newControl(12);
            pdu.put(9);
            pdu.putNumber(1, 2);
            pdu.putNumber(258, 2);
            versionSent = true;
        }

        void post(int channel, Row bytes) {
            if (isFull()) {
                return;
            }
            Row message = messages[(messageHead + messageCount) % messages.length];
            message.clear();
            message.putNumber(bytes.size, 2);
            message.putNumber(channel, 2);
            message.putPart(bytes, 0, bytes.size);
            messageCount++;
        }

        void pickNext(boolean held) {
            dropCurrent();
            if (controlCount > 0) {
                current.become(controls[controlHead]);
                sort = SORT_CONTROL;
                currentOp = current.at(0);
                controlHead = (controlHead + 1) % controls.length;
                controlCount--;
            } else if (!held && messageCount > 0) {
                pickPiece(messages[messageHead]);
            } else {
                sort = SORT_GOES_ON;
            }
        }

        private void pickPiece(Row message) {
            sort = placed == 0 ? SORT_BEGINS : SORT_GOES_ON;
            current.putPart(message, placed, PIECE_ROOM);
            placed += PIECE_ROOM;
            if (placed >= message.size) {
                placed = 0;
                messageHead = (messageHead + 1) % messages.length;
                messageCount--;
            }
        }

        /** Whether a message that is to be heard is whole with this piece. */
        boolean gather(int sortOfPiece, Row piece) {
            if (sortOfPiece == SORT_BEGINS) {
                gathered.clear();
                begun = piece.size >= 4 && piece.two(0) <= MESSAGE_ROOM;
            }
            if (!begun) {
                return false;
            }
            int whole = 4 + (gathered.size == 0 ? piece : gathered).two(0);
            if (gathered.size + piece.size > whole) {
                begun = false;
                return false;
            }
            gathered.putPart(piece, 0, piece.size);
            if (gathered.size < whole) {
                return false;
            }
            begun = false;
            letterChannel = gathered.two(2);
            letter.clear();
            letter.putPart(gathered, 4, whole);
            return !isFull() && letter.size > 0
                    && (letterChannel == ATTRIBUTE_CHANNEL || letterChannel == PAIRING_CHANNEL);
        }
    }

    /** AES-128 as FIPS 197 has it: a key is loaded, then rows of 16 are enciphered in their place. */
    private static final class Cipher {
        private static final int ROW = 16;
        private static final int ROUNDS = 10;
        private static final int[] SBOX = {
            0x63, 0x7c, 0x77, 0x7b, 0xf2, 0x6b, 0x6f, 0xc5, 0x30, 0x01, 0x67, 0x2b, 0xfe, 0xd7, 0xab, 0x76,
            0xca, 0x82, 0xc9, 0x7d, 0xfa, 0x59, 0x47, 0xf0, 0xad, 0xd4, 0xa2, 0xaf, 0x9c, 0xa4, 0x72, 0xc0,
            0xb7, 0xfd, 0x93, 0x26, 0x36, 0x3f, 0xf7, 0xcc, 0x34, 0xa5, 0xe5, 0xf1, 0x71, 0xd8, 0x31, 0x15,
            0x04, 0xc7, 0x23, 0xc3, 0x18, 0x96, 0x05, 0x9a, 0x07, 0x12, 0x80, 0xe2, 0xeb, 0x27, 0xb2, 0x75,
            0x09, 0x83, 0x2c, 0x1a, 0x1b, 0x6e, 0x5a, 0xa0, 0x52, 0x3b, 0xd6, 0xb3, 0x29, 0xe3, 0x2f, 0x84,
            0x53, 0xd1, 0x00, 0xed, 0x20, 0xfc, 0xb1, 0x5b, 0x6a, 0xcb, 0xbe, 0x39, 0x4a, 0x4c, 0x58, 0xcf,
            0xd0, 0xef, 0xaa, 0xfb, 0x43, 0x4d, 0x33, 0x85, 0x45, 0xf9, 0x02, 0x7f, 0x50, 0x3c, 0x9f, 0xa8,
            0x51, 0xa3, 0x40, 0x8f, 0x92, 0x9d, 0x38, 0xf5, 0xbc, 0xb6, 0xda, 0x21, 0x10, 0xff, 0xf3, 0xd2,
            0xcd, 0x0c, 0x13, 0xec, 0x5f, 0x97, 0x44, 0x17, 0xc4, 0xa7, 0x7e, 0x3d, 0x64, 0x5d, 0x19, 0x73,
            0x60, 0x81, 0x4f, 0xdc, 0x22, 0x2a, 0x90, 0x88, 0x46, 0xee, 0xb8, 0x14, 0xde, 0x5e, 0x0b, 0xdb,
            0xe0, 0x32, 0x3a, 0x0a, 0x49, 0x06, 0x24, 0x5c, 0xc2, 0xd3, 0xac, 0x62, 0x91, 0x95, 0xe4, 0x79,
            0xe7, 0xc8, 0x37, 0x6d, 0x8d, 0xd5, 0x4e, 0xa9, 0x6c, 0x56, 0xf4, 0xea, 0x65, 0x7a, 0xae, 0x08,
            0xba, 0x78, 0x25, 0x2e, 0x1c, 0xa6, 0xb4, 0xc6, 0xe8, 0xdd, 0x74, 0x1f, 0x4b, 0xbd, 0x8b, 0x8a,
            0x70, 0x3e, 0xb5, 0x66, 0x48, 0x03, 0xf6, 0x0e, 0x61, 0x35, 0x57, 0xb9, 0x86, 0xc1, 0x1d, 0x9e,
            0xe1, 0xf8, 0x98, 0x11, 0x69, 0xd9, 0x8e, 0x94, 0x9b, 0x1e, 0x87, 0xe9, 0xce, 0x55, 0x28, 0xdf,
            0x8c, 0xa1, 0x89, 0x0d, 0xbf, 0xe6, 0x42, 0x68, 0x41, 0x99, 0x2d, 0x0f, 0xb0, 0x54, 0xbb, 0x16
        };

        private final int[] roundKeys = new int[ROW * (ROUNDS + 1)];
        private final int[] moved = new int[ROW];

        void loadKey(int[] key) {
            for (int i = 0; i < ROW && i < key.length; i++) {
                roundKeys[i] = key[i] & 255;
            }
            int constant = 1;
            for (int i = ROW; i < roundKeys.length; i++) {
                int inRow = i % ROW;
                int earlier = roundKeys[i - 4];
                if (inRow < 4) {
                    earlier = SBOX[roundKeys[inRow == 3 ? i - 7 : i - 3] & 255];
                }
                if (inRow == 0) {
                    earlier ^= constant;
                    constant = constant << 1 ^ 0x11B * (constant >> 7);
                }
                roundKeys[i] = roundKeys[i - ROW] ^ earlier;
            }
        }

        void encipher(int[] row) {
            if (row.length < ROW) {
                return;
            }
            for (int i = 0; i < ROW; i++) {
                row[i] = (row[i] ^ roundKeys[i]) & 255;
            }
            for (int round = 1; round <= ROUNDS; round++) {
                for (int i = 0; i < ROW; i++) {
                    moved[i] = SBOX[row[i + 4 * (i & 3) & 15] & 255];
                }
                for (int i = 0; i < ROW; i++) {
                    int column = i & 12;
                    int mixed = moved[i];
                    if (round < ROUNDS) {
                        int both = mixed ^ moved[column + (i + 1 & 3)];
                        mixed ^= moved[column] ^ moved[column + 1] ^ moved[column + 2] ^ moved[column + 3];
                        mixed ^= both << 1 ^ 0x11B * (both >> 7);
                    }
                    row[i] = mixed ^ roundKeys[ROW * round + i];
                }
            }
        }
    }

    /** The key, and what is made of it for one link. */
    private static final class Guard {
        private final Cipher cipher;
        private final int[] key = new int[16];
        private boolean hasKey;
        private final int[] diversifier = new int[16];
        private final int[] session = new int[16];
        private final int[] iv = new int[8];
        private boolean hasSession;
        private boolean asked;
        private boolean held;
        private boolean secure;
        private boolean sends;
        private boolean comes;
        private int sent;
        private int opened;
        private final int[] mac = new int[16];
        private final int[] pad = new int[16];

        Guard(Cipher cipher) {
            this.cipher = cipher;
        }

        void reset() {
            hasSession = false;
            asked = false;
            held = false;
            secure = false;
            sends = false;
            comes = false;
            sent = 0;
            opened = 0;
        }

        void beginSending() {
            sends = true;
            sent = 0;
        }

        void beginComing() {
            comes = true;
            opened = 0;
        }

        void keepKey(int[] made) {
            for (int i = 0; i < key.length && i < made.length; i++) {
                key[i] = made[i];
            }
            hasKey = true;
        }

        void putSessionParts(Row pdu, int half) {
            for (int i = 0; i < 8; i++) {
                pdu.put(diversifier[half == 0 ? i : 8 + i]);
            }
            for (int i = 0; i < 4; i++) {
                pdu.put(iv[half == 0 ? i : 4 + i]);
            }
        }

        void takeSessionParts(Row pdu, int half) {
            for (int i = 0; i < 8; i++) {
                diversifier[half == 0 ? i : 8 + i] = pdu.at(1 + i);
            }
            for (int i = 0; i < 4; i++) {
                iv[half == 0 ? i : 4 + i] = pdu.at(9 + i);
            }
        }

        void makeSession() {
            for (int i = 0; i < session.length && i < diversifier.length; i++) {
                session[i] = diversifier[i];
            }
            cipher.loadKey(key);
            cipher.encipher(session);
            hasSession = true;
        }

        void seal(int first, Row pdu, int direction) {
            int n = pdu.size;
            cipher.loadKey(session);
            findMac(first, pdu, n, sent, direction);
            whitenBySession(pdu, n, sent, direction);
            for (int i = 0; i < 4; i++) {
                pdu.put(mac[i] ^ pad[i]);
            }
            sent++;
        }

        boolean open(int first, Row pdu, int direction) {
            int n = pdu.size - 4;
            if (n < 1) {
                return false;
            }
            cipher.loadKey(session);
            whitenBySession(pdu, n, opened, direction);
            findMac(first, pdu, n, opened, direction);
            for (int i = 0; i < 4; i++) {
                if (pdu.at(n + i) != (mac[i] ^ pad[i])) {
                    return false;
                }
            }
            pdu.cut(n);
            opened++;
            return true;
        }

        private void findMac(int first, Row pdu, int n, long number, int direction) {
            fillNonce(mac, 73, n, number, direction);
            cipher.encipher(mac);
            mac[1] ^= 1;
            mac[2] ^= first & 227;
            cipher.encipher(mac);
            for (int i = 0; i < n; i++) {
                mac[i & 15] ^= pdu.at(i) & 255;
                if ((i & 15) == 15 || i == n - 1) {
                    cipher.encipher(mac);
                }
            }
        }

        /** Xors R(1), R(2) on the bytes; R(0) is left in the pad, for the MIC. */
        private void whitenBySession(Row pdu, int n, long number, int direction) {
            for (int i = 0; i < n; i++) {
                if ((i & 15) == 0) {
                    fillNonce(pad, 1, 1 + (i >> 4), number, direction);
                    cipher.encipher(pad);
                }
                pdu.turn(i, pad[i & 15]);
            }
            fillNonce(pad, 1, 0, number, direction);
            cipher.encipher(pad);
        }

        private void fillNonce(int[] row, int firstByte, int lastByte, long number, int direction) {
            if (row.length < 16) {
                return;
            }
            row[0] = firstByte;
            for (int i = 0; i < 5; i++) {
                row[1 + i] = (int) (number >>> 8 * i & 255);
            }
            row[5] = row[5] + 128 * direction & 255;
            for (int i = 0; i < 8; i++) {
                row[6 + i] = iv[i];
            }
            row[14] = 0;
            row[15] = lastByte;
        }
    }

    /** Pairing by a passkey. */
    private static final class Pairing {
        private final Cipher cipher;
        private int passkey = NONE;
        private int step;
        private final int[] temporaryKey = new int[16];
        private final int[] bothMessages = new int[16];
        private final int[] random = new int[16];
        private final int[] kept = new int[16];
        private final int[] made = new int[16];

        Pairing(Cipher cipher) {
            this.cipher = cipher;
        }

        void start(int key, Row request) {
            putOffer(1, request);
            keepOffer(request, 2);
            useKey(key);
            step = 1;
        }

        void hear(Device d, Row m, Row reply) {
            boolean central = d.state == CENTRAL;
            switch (m.at(0)) {
                case 1:
                    if (m.size == 7 && !central) {
                        hearRequest(d, m, reply);
                    }
                    break;
                case 2:
                    if (m.size == 7 && central && step == 1) {
                        keepOffer(m, 9);
                        drawAndConfirm(d, reply);
                        step = 2;
                    }
                    break;
                case 3:
                    if (m.size == 17 && step == 2) {
                        hearConfirm(d, m, reply);
                    }
                    break;
                case 4:
                    if (m.size == 17 && step == 3) {
                        hearRandom(d, m, reply);
                    }
                    break;
                case 5:
                    if (m.size == 2 && step != 0) {
                        step = 0;
                        d.diary.note(11, m.at(1), 0, 0);
                    }
                    break;
                default:
                    break;
            }
        }

        private void hearRequest(Device d, Row m, Row reply) {
            if (passkey == NONE) {
                fail(5, d.diary, reply);
                return;
            }
            keepOffer(m, 2);
            useKey(passkey);
            putOffer(2, reply);
            keepOffer(reply, 9);
            step = 2;
        }

        private void hearConfirm(Device d, Row m, Row reply) {
            m.copyTo(kept, 1);
            if (d.state == CENTRAL) {
                reply.put(4);
                reply.putBytes(random);
            } else {
                drawAndConfirm(d, reply);
            }
            step = 3;
        }

        private void hearRandom(Device d, Row m, Row reply) {
            m.copyTo(made, 1);
            confirm(d);
            for (int i = 0; i < kept.length && i < made.length; i++) {
                if (kept[i] != made[i]) {
                    fail(4, d.diary, reply);
                    return;
                }
            }
            boolean central = d.state == CENTRAL;
            for (int i = 0; i < 8; i++) {
                int theirs = m.at(1 + i);
                made[i] = central ? theirs : random[i];
                made[8 + i] = central ? random[i] : theirs;
            }
            cipher.encipher(made);
            d.guard.keepKey(made);
            if (!central) {
                reply.put(4);
                reply.putBytes(random);
            }
            step = 0;
            d.diary.note(10, 0, 0, 0);
        }

        private void fail(int reason, Diary diary, Row reply) {
            reply.put(5);
            reply.put(reason);
            step = 0;
            diary.note(11, reason, 0, 0);
        }

        private void drawAndConfirm(Device d, Row reply) {
            d.drawInto(random, 0, 16);
            for (int i = 0; i < made.length && i < random.length; i++) {
                made[i] = random[i];
            }
            confirm(d);
            reply.put(3);
            reply.putBytes(made);
        }

        /** Makes c(TK, r) of the r that stands in made; the temporary key stays loaded. */
        private void confirm(Device d) {
            boolean central = d.state == CENTRAL;
            long first = central ? d.address : d.link.peer;
            long second = central ? d.link.peer : d.address;
            cipher.loadKey(temporaryKey);
            for (int i = 0; i < made.length && i < bothMessages.length; i++) {
                made[i] ^= bothMessages[i];
            }
            cipher.encipher(made);
            for (int i = 0; i < ADDRESS_BYTES; i++) {
                made[i] ^= (int) (first >>> 8 * i & 255);
                made[ADDRESS_BYTES + i] ^= (int) (second >>> 8 * i & 255);
            }
            cipher.encipher(made);
        }

        private static void putOffer(int op, Row message) {
            message.put(op);
            message.put(3);
            message.put(0);
            message.put(0);
            message.put(16);
            message.put(0);
            message.put(0);
        }

        private void keepOffer(Row message, int start) {
            for (int i = 0; i < 7 && start >= 0 && start + i < bothMessages.length; i++) {
                bothMessages[start + i] = message.at(i) & 255;
            }
        }

        private void useKey(int key) {
            for (int i = 0; i < temporaryKey.length; i++) {
                temporaryKey[i] = i < 4 ? key >>> 8 * i & 255 : 0;
            }
        }
    }

    /** Attributes, and the answers to who asks for them. */
    private static final class Server {
        private static final int ATTRIBUTES_ROOM = 20;
        private static final int PARTS_ROOM = 6;
        private static final int READ = 1;
        private static final int WRITE = 2;
        private static final int SECURE = 4;
        private static final int PRIMARY = 0x2800;
        private static final int SECONDARY = 0x2801;

        private final int[] types = new int[ATTRIBUTES_ROOM];
        private final int[] rights = new int[ATTRIBUTES_ROOM];
        private final Row[] values = new Row[ATTRIBUTES_ROOM];
        private int count;
        private int ownMtu = LEAST_MTU;
        private int linkMtu = LEAST_MTU;
        private final Row[] parts = new Row[PARTS_ROOM];
        private int partCount;
        private boolean waitsForConfirmation;
        private final int[] sizes = new int[ATTRIBUTES_ROOM];

        Server() {
            for (int i = 0; i < values.length; i++) {
                values[i] = new Row(VALUE_ROOM);
            }
            for (int i = 0; i < parts.length; i++) {
                parts[i] = new Row(GREATEST_MTU);
            }
        }

        void leaveLink() {
            linkMtu = LEAST_MTU;
            partCount = 0;
            waitsForConfirmation = false;
        }

        void agreeOnMtu(int theirs) {
            linkMtu = Math.max(LEAST_MTU, Math.min(ownMtu, theirs));
        }

        int addAttribute(int type, int right, Row bytes) {
            if (count >= ATTRIBUTES_ROOM) {
                return NONE;
            }
            types[count] = type;
            rights[count] = right;
            values[count].become(bytes);
            count++;
            return count;
        }

        Row valueOf(int handle) {
            return handle >= 1 && handle <= count && handle <= values.length ? values[handle - 1] : null;
        }

        void hearNotice(Row m, Diary diary, Row reply) {
            int op = m.at(0);
            if (m.size > linkMtu) {
                return;
            }
            if (op == 30) {
                if (m.size == 1 && waitsForConfirmation) {
                    waitsForConfirmation = false;
                    diary.note(18, 0, 0, 0);
                }
            } else if (m.size >= 3) {
                diary.noteBytes(op == 27 ? 16 : 17, m.two(1), 0, m, 3, m.size);
                if (op == 29) {
                    reply.put(30);
                }
            }
        }

        void serve(Row m, boolean secure, Row reply) {
            int op = m.at(0);
            if (op == 82) {
                if (m.size >= 3 && m.size <= linkMtu && faultOfWrite(m, secure) == 0) {
                    overwrite(m);
                }
                return;
            }
            if (!isRequest(op)) {
                if ((op & 64) == 0) {
                    refuse(op, 0, 6, reply);
                }
                return;
            }
            if (m.size > linkMtu || !hasItsSize(op, m.size) || op == 2 && m.two(1) < LEAST_MTU) {
                refuse(op, 0, 4, reply);
                return;
            }
            switch (op) {
                case 2:
                    agreeOnMtu(m.two(1));
                    reply.put(3);
                    reply.putNumber(ownMtu, 2);
                    break;
                case 10: case 12:
                    answerRead(m, secure, reply);
                    break;
                case 18: case 22:
                    answerWrite(m, secure, reply);
                    break;
                case 24:
                    answerExecute(m.at(1), reply);
                    break;
                default:
                    answerSearch(m, secure, reply);
                    break;
            }
        }

        private static boolean isRequest(int op) {
            switch (op) {
                case 2: case 4: case 6: case 8: case 10: case 12: case 16: case 18: case 22: case 24:
                    return true;
                default:
                    return false;
            }
        }

        private static boolean hasItsSize(int op, int size) {
            switch (op) {
                case 2: return size == 3;
                case 4: return size == 5;
                case 6: return size >= 7;
                case 8: return size == 7;
                case 10: return size == 3;
                case 12: return size == 5;
                case 16: return size == 7;
                case 18: return size >= 3;
                case 22: return size >= 5;
                default: return size == 2;
            }
        }

        private static void refuse(int op, int handle, int code, Row reply) {
            reply.put(1);
            reply.put(op);
            reply.putNumber(handle, 2);
            reply.put(code);
        }

        private int faultOfRead(int handle, boolean secure) {
            if (handle < 1 || handle > count || handle > rights.length) {
                return 1;
            }
            int right = rights[handle - 1];
            if ((right & READ) == 0) {
                return 2;
            }
            return (right & SECURE) != 0 && !secure ? 5 : 0;
        }

        private int faultOfWrite(Row m, boolean secure) {
            int handle = m.two(1);
            if (handle < 1 || handle > count || handle > rights.length) {
                return 1;
            }
            int right = rights[handle - 1];
            if ((right & WRITE) == 0) {
                return 3;
            }
            if ((right & SECURE) != 0 && !secure) {
                return 5;
            }
            if (m.at(0) == 22) {
                return partCount >= PARTS_ROOM ? 9 : 0;
            }
            return m.size - 3 > VALUE_ROOM ? 13 : 0;
        }

        private void overwrite(Row m) {
            Row kept = valueOf(m.two(1));
            if (kept != null) {
                kept.clear();
                kept.putPart(m, 3, m.size);
            }
        }

        private void answerRead(Row m, boolean secure, Row reply) {
            int op = m.at(0);
            int handle = m.two(1);
            int place = op == 12 ? m.two(3) : 0;
            int fault = faultOfRead(handle, secure);
            Row kept = valueOf(handle);
            if (fault == 0 && kept != null && place > kept.size) {
                fault = 7;
            }
            if (fault != 0 || kept == null) {
                refuse(op, handle, fault, reply);
                return;
            }
            reply.put(op + 1);
            reply.putPart(kept, place, linkMtu - 1);
        }

        private void answerWrite(Row m, boolean secure, Row reply) {
            int op = m.at(0);
            int fault = faultOfWrite(m, secure);
            if (fault != 0) {
                refuse(op, m.two(1), fault, reply);
                return;
            }
            reply.put(op + 1);
            if (op == 18) {
                overwrite(m);
                return;
            }
            reply.putPart(m, 1, m.size);
            if (partCount < parts.length) {
                parts[partCount].clear();
                parts[partCount].putPart(m, 1, m.size);
                partCount++;
            }
        }

        private void answerExecute(int how, Row reply) {
            int waiting = Math.min(partCount, parts.length);
            partCount = 0;
            if (how != 0) {
                for (int i = 0; i < count && i < sizes.length; i++) {
                    sizes[i] = values[i].size;
                }
                for (int i = 0; i < waiting; i++) {
                    int fault = faultOfPart(parts[i]);
                    if (fault != 0) {
                        refuse(24, parts[i].two(0), fault, reply);
                        return;
                    }
                }
                for (int i = 0; i < waiting; i++) {
                    writePart(parts[i]);
                }
            }
            reply.put(25);
        }

        /** Looks at a part by the sizes as those ahead of it leave them. */
        private int faultOfPart(Row part) {
            int handle = part.two(0);
            if (handle < 1 || handle > count || handle > sizes.length) {
                return 1;
            }
            int place = part.two(2);
            int end = place + part.size - 4;
            if (place > sizes[handle - 1]) {
                return 7;
            }
            if (end > VALUE_ROOM) {
                return 13;
            }
            sizes[handle - 1] = Math.max(sizes[handle - 1], end);
            return 0;
        }

        private void writePart(Row part) {
            Row kept = valueOf(part.two(0));
            int place = part.two(2);
            for (int i = 4; kept != null && i < part.size; i++) {
                kept.write(place + i - 4, part.at(i));
            }
        }

        private void answerSearch(Row m, boolean secure, Row reply) {
            int op = m.at(0);
            int from = m.two(1);
            int type = m.two(5);
            int last = Math.min(m.two(3), count);
            if (from == 0 || from > m.two(3)) {
                refuse(op, from, 1, reply);
                return;
            }
            if (op == 16 && !isGroup(type)) {
                refuse(op, from, 16, reply);
                return;
            }
            if (op == 4) {
                listTypes(from, last, reply);
            } else if (op == 6) {
                listEqual(m, last, secure, reply);
            } else {
                listRows(m, last, secure, reply);
            }
            if (reply.size == 0) {
                refuse(op, from, 10, reply);
            }
        }

        private void listTypes(int from, int last, Row reply) {
            for (int h = from; h <= last && h <= types.length && reply.size + 4 <= linkMtu; h++) {
                if (reply.size == 0) {
                    reply.put(5);
                    reply.put(1);
                }
                reply.putNumber(h, 2);
                reply.putNumber(types[h - 1], 2);
            }
        }

        private void listEqual(Row m, int last, boolean secure, Row reply) {
            int type = m.two(5);
            for (int h = m.two(1); h <= last && h <= types.length && reply.size + 4 <= linkMtu; h++) {
                if (types[h - 1] == type && values[h - 1].isTailOf(m, 7) && faultOfRead(h, secure) == 0) {
                    if (reply.size == 0) {
                        reply.put(7);
                    }
                    reply.putNumber(h, 2);
                    reply.putNumber(endOf(h), 2);
                }
            }
        }

        private void listRows(Row m, int last, boolean secure, Row reply) {
            int op = m.at(0);
            int type = m.two(5);
            int ahead = op == 8 ? 2 : 4;
            int most = linkMtu - 2 - ahead;
            int width = 0;
            for (int h = m.two(1); h <= last && h <= types.length; h++) {
                if (types[h - 1] != type) {
                    continue;
                }
                int fault = faultOfRead(h, secure);
                int itsWidth = ahead + Math.min(values[h - 1].size, most);
                if (width == 0) {
                    if (fault != 0) {
                        refuse(op, h, fault, reply);
                        return;
                    }
                    width = itsWidth;
                    reply.put(op + 1);
                    reply.put(width);
                }
                if (fault != 0 || itsWidth != width || reply.size + width > linkMtu) {
                    return;
                }
                reply.putNumber(h, 2);
                if (op == 16) {
                    reply.putNumber(endOf(h), 2);
                }
                reply.putPart(values[h - 1], 0, most);
            }
        }

        private static boolean isGroup(int type) {
            return type == PRIMARY || type == SECONDARY;
        }

        private int endOf(int handle) {
            for (int h = Math.max(handle, 0) + 1; h <= count && h <= types.length; h++) {
                if (isGroup(types[h - 1])) {
                    return h - 1;
                }
            }
            return count;
        }
    }

    /** The job that a device has under way. */
    private static final class Client {
        private static final int SERVICE = 0x2800;
        private static final int CHARACTERISTIC = 0x2803;

        private int kind = NONE;
        private int a;
        private int b;
        private int askedOp;
        private int done;
        private final Row bytes = new Row(VALUE_ROOM);

        void begin(int newKind, int newA, int newB) {
            kind = newKind;
            a = newA;
            b = newB;
            askedOp = 0;
            done = 0;
            bytes.clear();
        }

        int firstHandle() {
            return kind == 2 || kind == 3 ? a : 1;
        }

        private int lastHandle() {
            return kind == 2 || kind == 3 ? b : LAST_HANDLE;
        }

        void ask(int from, Server server, Row request) {
            switch (kind) {
                case 0:
                    request.put(2);
                    request.putNumber(server.ownMtu, 2);
                    break;
                case 1:
                    putRange(16, from, SERVICE, request);
                    break;
                case 2:
                    putRange(8, from, CHARACTERISTIC, request);
                    break;
                case 3:
                    putRange(4, from, NONE, request);
                    break;
                case 4:
                    request.put(askedOp == 0 ? 10 : 12);
                    request.putNumber(a, 2);
                    if (askedOp != 0) {
                        request.putNumber(bytes.size, 2);
                    }
                    break;
                case 5:
                    askToWrite(server.linkMtu, request);
                    break;
                default:
                    putRange(6, from, SERVICE, request);
                    request.putPart(bytes, 0, bytes.size);
                    break;
            }
            askedOp = request.at(0);
        }

        private void putRange(int op, int from, int type, Row request) {
            request.put(op);
            request.putNumber(from, 2);
            request.putNumber(lastHandle(), 2);
            if (type != NONE) {
                request.putNumber(type, 2);
            }
        }

        private void askToWrite(int mtu, Row request) {
            if (done == 0 && bytes.size <= mtu - 3) {
                request.put(18);
                request.putNumber(a, 2);
                request.putPart(bytes, 0, bytes.size);
            } else if (done < bytes.size) {
                request.put(22);
                request.putNumber(a, 2);
                request.putNumber(done, 2);
                request.putPart(bytes, done, mtu - 5);
                done = Math.min(bytes.size, done + mtu - 5);
            } else {
                request.put(24);
                request.put(1);
            }
        }

        void goOn(Row m, Server server, Diary diary, Row request) {
            if (kind == NONE) {
                return;
            }
            int op = m.at(0);
            if (op == 1) {
                if (m.size == 5 && m.at(1) == askedOp) {
                    hearError(m, diary);
                }
                return;
            }
            if (op != askedOp + 1 || !isWhole(op, m)) {
                return;
            }
            switch (kind) {
                case 0:
                    server.agreeOnMtu(m.two(1));
                    finish(diary);
                    break;
                case 4:
                    hearValue(m, server, diary, request);
                    break;
                case 5:
                    if (op == 23) {
                        ask(0, server, request);
                    } else {
                        diary.note(5, a, 0, 0);
                        finish(diary);
                    }
                    break;
                default:
                    hearRows(m, server, diary, request);
                    break;
            }
        }

        private static boolean isWhole(int op, Row m) {
            switch (op) {
                case 3: return m.size == 3;
                case 5: return m.at(1) == 1 && areRows(m.size - 2, 4);
                case 7: return areRows(m.size - 1, 4);
                case 9: return m.at(1) >= 2 && areRows(m.size - 2, m.at(1));
                case 17: return m.at(1) >= 4 && areRows(m.size - 2, m.at(1));
                case 19: return m.size == 1;
                case 23: return m.size >= 5;
                case 25: return m.size == 1;
                default: return true;
            }
        }

        private static boolean areRows(int size, int width) {
            return width > 0 && size >= width && size % width == 0;
        }

        private void finish(Diary diary) {
            diary.note(8, kind, 0, 0);
            kind = NONE;
        }

        private void hearError(Row m, Diary diary) {
            boolean searches = kind == 1 || kind == 2 || kind == 3 || kind == 6;
            if (searches && m.at(4) == 10) {
                finish(diary);
                return;
            }
            diary.note(9, m.at(1), m.two(2), m.at(4));
            kind = NONE;
        }

        private void hearValue(Row m, Server server, Diary diary, Row request) {
            bytes.putPart(m, 1, m.size);
            if (m.size == server.linkMtu) {
                ask(0, server, request);
                return;
            }
            diary.noteBytes(4, a, 0, bytes, 0, bytes.size);
            finish(diary);
        }

        private void hearRows(Row m, Server server, Diary diary, Row request) {
            int op = m.at(0);
            int width = op == 5 || op == 7 ? 4 : m.at(1);
            int last = 0;
            for (int p = op == 7 ? 1 : 2; width > 0 && p + width <= m.size; p += width) {
                int handle = m.two(p);
                int second = op == 9 ? 0 : m.two(p + 2);
                int ahead = op == 9 ? 2 : 4;
                diary.noteBytes(kind, handle, second, m, p + ahead, width - ahead);
                last = op == 17 || op == 7 ? second : handle;
            }
            if (last < lastHandle()) {
                ask(last + 1, server, request);
            } else {
                finish(diary);
            }
        }
    }

    /** The completions that are kept for a device. */
    private static final class Diary {
        private static final int ROOM = 32;

        private final int[] kinds = new int[ROOM];
        private final int[][] numbers = new int[ROOM][3];
        private final Row[] rows = new Row[ROOM];
        private int head;
        private int count;
        private int lost;

        Diary() {
            for (int i = 0; i < rows.length; i++) {
                rows[i] = new Row(VALUE_ROOM);
            }
        }

        void note(int kind, int first, int second, int third) {
            if (count >= ROOM) {
                lost++;
                return;
            }
            int place = (head + count) % ROOM;
            kinds[place] = kind;
            numbers[place][0] = first;
            numbers[place][1] = second;
            numbers[place][2] = third;
            rows[place].clear();
            count++;
        }

        void noteBytes(int kind, int first, int second, Row from, int start, int size) {
            if (count < ROOM) {
                Row bytes = rows[(head + count) % ROOM];
                note(kind, first, second, 0);
                bytes.putPart(from, start, size);
            } else {
                lost++;
            }
        }

        int figure(int what) {
            if (count == 0) {
                return NONE;
            }
            if (what == 0) {
                return kinds[head];
            }
            if (what >= 1 && what <= 3) {
                return numbers[head][what - 1];
            }
            if (what == 4) {
                return rows[head].size;
            }
            return what >= 10 ? rows[head].at(what - 10) : NONE;
        }

        boolean dropFirst() {
            if (count == 0) {
                return false;
            }
            head = (head + 1) % ROOM;
            count--;
            return true;
        }
    }
}
