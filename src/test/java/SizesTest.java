/**
 * What is heard with every number of bytes: control PDUs, pairing messages, requests and answers. The last piece of a
 * long message goes with another SORT, so that any bytes come to the other device as a PDU of their own.
 */
public final class SizesTest extends Runs {
    private static final Check CHECK = new Check("SizesTest");
    private static final int CONTROL = 3;
    private static final int BEGINS = 2;
    private static final int LONGEST = 23;

    private SizesTest() {
        super(CHECK);
        x.mtu(0, 64);
        x.mtu(1, 64);
        attribute(0x2800, 3, 1, 2, 3, 4, 5);
        attribute(0x2803, 3, 6, 7);
        attribute(0x2A00, 3);
        link(2, 400);
        x.job(0, 0, 0, 0);
        x.tick(8);
        drop(0);
    }

    public static void main(String[] args) {
        for (int op = 0; op <= 15; op++) {
            for (int size = 1; size <= 14; size++) {
                controlOf(op, size);
            }
        }
        for (int op = 0; op <= 6; op++) {
            for (int size = 1; size <= LONGEST; size++) {
                pairingOf(op, size);
            }
        }
        int[] ops = {2, 4, 6, 8, 10, 12, 14, 16, 18, 20, 22, 24, 26, 27, 28, 29, 31, 64, 82, 83};
        for (int op : ops) {
            for (int size = 1; size <= LONGEST; size++) {
                requestOf(op, size);
            }
        }
        for (int size = 1; size <= LONGEST; size++) {
            confirmationOf(size);
            answersOf(size);
        }
        CHECK.end();
    }

    private static void due(String what, long got, long want) {
        CHECK.due(what, got, want);
    }

    /** A device's next packet but one will have just these bytes; the next one was sent. */
    private void prepare(int d, int... bytes) {
        bytes(Oracle.row(new int[20], bytes));
        due("it can be sent", x.send(d, 0, 0) ? 1 : 0, 1);
        x.tick(2);
    }

    private void hear(int d, int sort) {
        int[] is = nextPacket(d);
        int[] shall = is.clone();
        shall[0] = is[0] & 252 | sort;
        CHECK.due("it can be forged", x.forge(d, is, shall), true);
        x.tick(2);
        x.look();
    }

    private static int[] message(int channel, int... bytes) {
        return Oracle.row(bytes.length, 0, channel, 0, bytes);
    }

    private static int[] of(int size, int... bytes) {
        int[] all = new int[size];
        for (int i = 0; i < size; i++) {
            all[i] = i < bytes.length ? bytes[i] : 9;
        }
        return all;
    }

    /** The bytes behind the message's head in packet k of the latest tick, or none. */
    private int[] answer() {
        int n = x.x.air(1, NONE);
        int[] all = new int[n - 4];
        for (int i = 4; i < n; i++) {
            all[i - 4] = x.x.air(1, i);
        }
        return Oracle.sub(Oracle.whiten(all, x.x.air(1, -2)), 6, n - 4 - 3);
    }

    private void dueAnswer(String what, int... want) {
        int[] got = answer();
        due(what + ": bytes of the answer", got.length, want.length);
        for (int i = 0; i < want.length && i < got.length; i++) {
            due(what + ": byte " + i, got[i], want[i]);
        }
    }

    // ---- part 4 ----

    private static int controlSize(int op) {
        int[] sizes = {NONE, 8, 2, 13, 13, 1, 1, 2, 9, 9, NONE, NONE, 6, 2};
        return op < sizes.length ? sizes[op] : NONE;
    }

    /** "With other bytes than its OP has, another OP, by a CENTRAL of 1 and 3, by a PERIPHERAL of 4, 5 and 13: a 7". */
    private static void controlOf(int op, int size) {
        for (int from = 0; from < 2; from++) {
            int to = 1 - from;
            SizesTest t = new SizesTest();
            t.prepare(from, of(size, op, 1, 1, 1, 1, 1, 1, 1));
            t.hear(from, CONTROL);
            boolean wrongRole = to == 0 ? op == 1 || op == 3 : op == 4 || op == 5 || op == 13;
            boolean obeyed = size == controlSize(op) && !wrongRole;
            String what = "OP " + op + " of " + size + " bytes to " + to;
            due(what + ": what comes of it", t.x.x.completion(to, 0), obeyed ? ownCompletion(op, to) : NONE);
            t.x.tick(4);
            int back = t.x.x.completion(from, 0);
            if (!obeyed) {
                due(what + ": a 7", back, op == 7 ? NONE : 19);
                due(what + ": its OP", t.x.x.completion(from, 1), op == 7 ? NONE : op);
            } else {
                due(what + ": no 7", back, op == 3 ? NONE : op == 8 ? 15 : op == 12 ? 14 : NONE);
            }
            t.x.look();
            t.x.lookClosely();
        }
    }

    /** A 2 ends the link of a PERIPHERAL at once; of others those that tell something. */
    private static int ownCompletion(int op, int to) {
        switch (op) {
            case 2: return to == 1 ? 7 : NONE;
            case 7: return 19;
            case 9: return 15;
            case 12: return 14;
            default: return NONE;
        }
    }

    // ---- part 6 ----

    private static void pairingOf(int op, int size) {
        SizesTest t = new SizesTest();
        t.x.allow(1, 5);
        t.prepare(0, message(6, of(size, op)));
        t.hear(0, BEGINS);
        boolean begins = op == 1 && size == 7;
        String what = "message " + op + " of " + size;
        due(what + ": step", t.x.x.device(1, 18), begins ? 2 : 0);
        t.nothingElse(1);
        t.dueAnswer(what, begins ? new int[] {2, 3, 0, 0, 16, 0, 0} : new int[0]);
        if (!begins && op != 5) {
            return;
        }
        SizesTest u = new SizesTest();
        u.x.allow(1, 5);
        u.prepare(0, message(6, of(7, 1)));
        u.hear(0, BEGINS);
        due("step", u.x.x.device(1, 18), 2);
        u.prepare(0, message(6, of(size, op, 200)));
        u.hear(0, BEGINS);
        boolean ends = op == 5 && size == 2;
        due(what + " at step 2", u.x.x.device(1, 18), ends ? 0 : 2);
        due(what + " at step 2", u.x.x.completion(1, 0), ends ? 11 : NONE);
        due(what + " at step 2", u.x.x.completion(1, 1), ends ? 200 : NONE);
    }

    // ---- part 7 ----

    private static boolean hasItsBytes(int op, int size) {
        switch (op) {
            case 2: case 10: return size == 3;
            case 4: case 12: return size == 5;
            case 6: return size >= 7;
            case 8: case 16: return size == 7;
            case 18: case 27: case 29: case 82: return size >= 3;
            case 22: return size >= 5;
            default: return size == 2;
        }
    }

    private static int[] request(int op, int size) {
        if (op == 2) {
            return of(size, 2, 23, 0);
        }
        return of(size, op, 1, 0, 3, 0, op == 8 ? 3 : 0, 0x28);
    }

    private static int[] due(int op, int size) {
        switch (op) {
            case 2: return new int[] {3, 64, 0};
            case 4: return new int[] {5, 1, 1, 0, 0, 0x28, 2, 0, 3, 0x28, 3, 0, 0, 0x2A};
            case 6: return new int[] {1, 6, 1, 0, 10};
            case 8: return new int[] {9, 4, 2, 0, 6, 7};
            case 10: return new int[] {11, 1, 2, 3, 4, 5};
            case 12: return new int[] {13, 4, 5};
            case 16: return new int[] {17, 9, 1, 0, 3, 0, 1, 2, 3, 4, 5};
            case 18: return new int[] {19};
            case 22: return Oracle.row(23, Oracle.sub(request(22, size), 1, size));
            case 24: return new int[] {25};
            case 29: return new int[] {30};
            default: return new int[0];
        }
    }

    /** "4 (HANDLE 0): other bytes than the OP has"; "82, 27, 29, 30 with other bytes than they have .. do nothing". */
    private static void requestOf(int op, int size) {
        SizesTest t = new SizesTest();
        t.prepare(0, message(4, request(op, size)));
        t.hear(0, BEGINS);
        boolean right = hasItsBytes(op, size);
        String what = "OP " + op + " of " + size + " bytes";
        if (op == 14 || op == 20 || op == 26 || op == 28 || op == 31) {
            t.dueAnswer(what, 1, op, 0, 0, 6);
        } else if (right) {
            t.dueAnswer(what, due(op, size));
        } else if (op == 27 || op == 29 || (op & 64) != 0) {
            t.dueAnswer(what);
        } else {
            t.dueAnswer(what, 1, op, 0, 0, 4);
        }
        due(what + ": VALUE", t.x.value(1, 1, NONE), right && (op == 18 || op == 82) ? size - 3 : 5);
        due(what + ": parts", t.x.x.device(1, 20), right && op == 22 ? 1 : 0);
        due(what + ": MTU", t.x.x.device(1, 17), right && op == 2 ? 23 : 64);
        due(what + ": told of", t.x.x.completion(1, 0), right && op == 27 ? 16 : right && op == 29 ? 17 : NONE);
        due(what + ": its bytes", t.x.x.completion(1, 4), right && (op == 27 || op == 29) ? size - 3 : NONE);
    }

    /** "30: COMPLETION 18, if it waits for it." */
    private static void confirmationOf(int size) {
        SizesTest t = new SizesTest();
        t.prepare(0, message(4, of(size, 30)));
        t.hear(0, BEGINS);
        t.dueAnswer("a 30 of " + size);
        t.nothingElse(1);
        SizesTest u = new SizesTest();
        u.x.send(1, 2, 1);
        u.change(1, 4, 28);
        u.x.tick(6);
        due("it waits", u.x.x.device(1, 28), 1);
        u.prepare(0, message(4, of(size, 30)));
        u.hear(0, BEGINS);
        due("it waits, if that was none", u.x.x.device(1, 28), size == 1 ? 0 : 1);
        due("COMPLETION 18", u.x.x.completion(1, 0), size == 1 ? 18 : NONE);
    }

    // ---- part 8 ----

    /** A JOB begins (of 5, 6 with so many bytes), and this is what comes to it first; whether it was an answer. */
    private static boolean isAnswer(int kind, int bytes, int... message) {
        SizesTest t = new SizesTest();
        t.prepare(1, message(4, message));
        t.bytes(new int[bytes]);
        CHECK.due("job", t.x.job(0, kind, 1, 9), true);
        t.hear(1, BEGINS);
        return t.x.x.completion(0, 0) != NONE || t.x.x.device(0, 10) > 0;
    }

    private static void answer(boolean want, int kind, int bytes, int... message) {
        CHECK.due("JOB " + kind + ", " + message[0] + " of " + message.length + " bytes", isAnswer(kind, bytes, message), want);
    }

    private static boolean rows(int size, int width) {
        return size >= width && size % width == 0;
    }

    /** "1 five, 3 three, 5 with the 1 and 7 rows of 4, 9 and 17 rows of as many as told, 2 and 4 at least, one row at least". */
    private static void answersOf(int size) {
        answer(size == 3, 0, 0, of(size, 3, 40, 0));
        answer(size == 5, 0, 0, of(size, 1, 2, 0, 0, 4));
        answer(size == 5, 3, 0, of(size, 1, 4, 0, 0, 10));
        answer(false, 3, 0, of(size, 1, 5, 0, 0, 10));
        answer(rows(size - 2, 4), 3, 0, of(size, 5, 1));
        answer(false, 3, 0, of(size, 5, 2));
        answer(false, 3, 0, of(size, 5, 0));
        answer(rows(size - 1, 4), 6, 2, of(size, 7));
        for (int width = 0; width <= 21; width++) {
            answer(width >= 2 && rows(size - 2, width), 2, 0, of(size, 9, width));
            answer(width >= 4 && rows(size - 2, width), 1, 0, of(size, 17, width));
        }
        answer(true, 4, 0, of(size, 11));
        answer(false, 4, 0, of(size, 13));
        answer(size == 1, 5, 3, of(size, 19));
        answer(false, 5, 3, of(size, 23));
        answer(false, 5, 3, of(size, 25));
        answerInParts(22, size >= 5, of(size, 23));
        answerInParts(22, false, of(size, 19));
        answerInParts(22, false, of(size, 25));
        answerInParts(22, size == 5, of(size, 1, 22, 1, 0, 9));
        answerInParts(24, size == 1, of(size, 25));
        answerInParts(24, false, of(size, 19));
        answerInParts(24, false, of(size, 23));
        answerInParts(24, size == 5, of(size, 1, 24, 1, 0, 9));
    }

    /** "23 five at least, 19 and 25 one": a JOB 5 of 30 bytes with MTU 23, waiting for the answer to a 22 or to its 24. */
    private static void answerInParts(int op, boolean want, int... message) {
        SizesTest t = new SizesTest();
        t.x.job(0, 0, 0, 0);
        t.change(1, 5, 23);
        t.x.tick(8);
        t.drop(0);
        due("MTU", t.x.x.device(0, 17), 23);
        due("MTU", t.x.x.device(1, 17), 64);
        t.bytes(new int[30]);
        t.x.job(0, 5, 3, 0);
        t.x.tick(op == 22 ? 2 : 4);
        t.drop(0);
        due("an " + op + " is next", t.nextPacket(0)[6], op);
        t.prepare(1, message(4, message));
        t.hear(1, BEGINS);
        boolean taken = t.x.x.completion(0, 0) != NONE || t.x.x.device(0, 10) > 0;
        CHECK.due("an answer to " + op + ", " + message[0] + " of " + message.length + " bytes", taken, want);
    }
}
