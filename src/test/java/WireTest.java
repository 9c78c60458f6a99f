/** Promises 22, 23 and 27 to 30: bytes on their way, harms, and what devices note of frames. */
public final class WireTest {
    private static final Check C = new Check("WireTest");
    /** A frame of four bytes goes in 16 ticks, and ends 14 ticks later. */
    private static final int SENT = 16;
    private static final int ENDED = SENT + 14;

    public static void main(String[] args) {
        tickCalls();
        timesOfARequest();
        lagOfAReply();
        harmCalls();
        harmsCountFromTheNextByte();
        turnedByte();
        lostBytes();
        oneByteIsAFrame();
        lateBytes();
        lateByteEndsAFrame();
        lateAnswer();
        othersHear();
        newReplyInPlace();
        deafDevice();
        messagesToAll();
        eventsGoRound();
        deviceInTheMiddle();
        C.end();
    }

    private static FieldLine line(int lag) {
        FieldLine x = new FieldLine();
        x.device(5, lag);
        x.settings(1, 5000, 40);
        return x;
    }

    private static FieldLine asked(int lag, int... pdu) {
        FieldLine x = line(lag);
        Check.request(x, 5, pdu);
        return x;
    }

    private static void states(FieldLine x, String when, int[]... pairs) {
        for (int[] pair : pairs) {
            C.due(when + ": state(" + pair[0] + ")", x.state(pair[0]), pair[1]);
        }
    }

    private static void counters(FieldLine x, String when, int d, int[]... pairs) {
        for (int[] pair : pairs) {
            C.due(when + ": counter(" + d + ", " + pair[0] + ")", x.counter(d, pair[0]), pair[1]);
        }
    }

    private static int[] is(int what, int v) {
        return new int[] {what, v};
    }

    private static void tickCalls() {
        int[] wrong = {0, -1, 1001, Integer.MIN_VALUE, Integer.MAX_VALUE};
        FieldLine x = line(0);
        for (int n : wrong) {
            boolean thrown = false;
            try {
                x.tick(n);
            } catch (IllegalArgumentException e) {
                thrown = true;
            }
            C.due("tick(" + n + ") throws", thrown, true);
        }
        C.due("the clock", x.state(0), 0);
        C.due("tick(1)", x.tick(1), 0);
        C.due("tick(1000)", x.tick(1000), 0);
        states(x, "idle", is(0, 1001), is(1, 0), is(2, 1000), is(17, -1), is(-1, -1));
    }

    private static void timesOfARequest() {
        FieldLine x = asked(0, 17);
        C.due("sent ahead", x.sent(0), -1);
        C.due("one tick", x.tick(1), 0);
        states(x, "begun", is(1, 1), is(3, 1), is(6, 1), is(16, 1), is(10, 0), is(2, 14), is(5, 1));
        int[] frame = Check.frame(5, new int[] {17});
        for (int i = 0; i < 4; i++) {
            C.due("sent(" + i + ")", x.sent(i), frame[i]);
        }
        C.due("sent(4)", x.sent(4), -1);
        C.due("sent(-1)", x.sent(-1), -1);
        C.due("four ticks", x.tick(3), 1);
        counters(x, "a byte", 0, is(14, 1), is(15, 0));
        C.due("to the last tick", x.tick(SENT - 5), 2);
        states(x, "nearly", is(1, 1), is(3, 1), is(4, 0));
        C.due("the last tick", x.tick(1), 1);
        states(x, "sent", is(1, 0), is(3, 2), is(4, 0), is(2, 0), is(10, 4));
        x.tick(13);
        states(x, "waits", is(4, 13), is(2, 13));
        counters(x, "still", 0, is(14, 4), is(0, 0), is(12, 0));
        x.tick(1);
        counters(x, "ended", 0, is(14, 0), is(0, 1), is(3, 1), is(8, 1), is(12, 7), is(13, 0), is(16, 5));
        C.due("event(0, 0)", x.event(0, 0), 64);
        C.due("event(0, 1)", x.event(0, 1), 128);
        C.due("event(0, 2)", x.event(0, 2), -1);
        C.due("event(0, -1)", x.event(0, -1), -1);
        C.due("event(1, 0)", x.event(1, 0), -1);
        C.due("counter(0, 17)", x.counter(0, 17), -1);
        C.due("counter(0, -1)", x.counter(0, -1), -1);
        C.due("counter(1, 0)", x.counter(1, 0), -1);
        x.tick(1);
        states(x, "the reply", is(1, 2), is(16, 2), is(3, 2));
        counters(x, "the reply", 0, is(12, 0));
        C.due("sent(3)", x.sent(3), 0);
        C.due("the reply's bytes", x.tick(27), 7);
        states(x, "behind it", is(1, 0), is(2, 0), is(7, 0));
        x.tick(13);
        states(x, "nearly", is(7, 0));
        x.tick(1);
        states(x, "the result", is(7, 1), is(3, 0), is(4, 0), is(5, 0), is(6, 0), is(9, 0), is(0, ENDED + 42));
    }

    private static void lagOfAReply() {
        FieldLine x = asked(3, 17);
        x.tick(ENDED);
        counters(x, "at first", 0, is(13, 3), is(12, 7));
        x.tick(1);
        counters(x, "one less", 0, is(13, 2));
        x.tick(2);
        counters(x, "none left", 0, is(13, 0), is(12, 7));
        states(x, "not begun", is(1, 0));
        x.tick(1);
        states(x, "begun", is(1, 2));
        counters(x, "begun", 0, is(13, 0), is(12, 0));
    }

    private static void harmCalls() {
        FieldLine x = line(0);
        C.due("n -1", x.harm(-1, 1), false);
        C.due("n 2001", x.harm(2001, 1), false);
        C.due("x 0", x.harm(0, 0), false);
        C.due("x 341", x.harm(0, 341), false);
        for (int i = 0; i < 63; i++) {
            C.due("harm " + i, x.harm(i * 2, 1 + i), true);
        }
        C.due("harm 2000", x.harm(2000, 340), true);
        C.due("state(11)", x.state(11), 64);
        C.due("a 65th", x.harm(1, 5), false);
        C.due("in place of one", x.harm(2000, 256), true);
        C.due("in place of the first", x.harm(0, 257), true);
        C.due("state(11)", x.state(11), 64);
        Check.request(x, 5, 17);
        x.tick(1);
        C.due("state(11), one begun", x.state(11), 63);
        C.due("then there is room", x.harm(0, 5), true);
        C.due("state(11)", x.state(11), 64);
    }

    private static void harmsCountFromTheNextByte() {
        FieldLine x = asked(0, 17);
        x.tick(1);
        x.harm(0, 256);
        x.tick(7);
        counters(x, "the second is lost", 0, is(14, 1));
        x.harm(0, 256);
        x.tick(4);
        counters(x, "the third is lost", 0, is(14, 1));
        x.tick(4);
        counters(x, "the fourth is heard", 0, is(14, 2), is(15, 1));
        C.due("bytes done", x.state(10), 4);
        x.harm(0, 300);
        x.tick(14);
        counters(x, "not good", 0, is(1, 1), is(14, 0), is(15, 0));
        FieldLine late = asked(0, 17);
        late.harm(0, 266);
        late.tick(1);
        late.harm(0, 255);
        late.tick(10);
        C.due("no byte yet", late.state(10), 0);
        late.tick(3);
        C.due("the late byte", late.state(10), 1);
        late.tick(12 + 14);
        counters(late, "the one behind was turned", 0, is(1, 1), is(0, 0));
    }

    private static void turnedByte() {
        FieldLine x = asked(0, 17);
        x.harm(1, 128);
        x.tick(ENDED);
        counters(x, "turned", 0, is(0, 0), is(1, 1), is(3, 0), is(7, 0), is(10, 1), is(12, 0));
        C.due("event", x.event(0, 0), 130);
        C.due("sent as it was meant", x.sent(1), 17);
        FieldLine y = asked(0, 17);
        int[] meant = Check.frame(5, new int[] {17});
        int[] heard = Check.frame(5, new int[] {7});
        for (int i = 0; i < 4; i++) {
            if (meant[i] != heard[i]) {
                y.harm(i, meant[i] ^ heard[i]);
            }
        }
        y.tick(ENDED);
        counters(y, "another request", 0, is(0, 1), is(12, 5));
        y.tick(200);
        C.result(y, "the answer does not fit", 2, 3, 1, 0);
    }

    private static void lostBytes() {
        FieldLine x = asked(0, 8, 0, 0, 1);
        x.harm(1, 256);
        x.tick(8);
        counters(x, "lost", 0, is(14, 1), is(15, 0));
        x.tick(4);
        counters(x, "one is no gap", 0, is(14, 2), is(15, 0));
        FieldLine y = asked(0, 8, 0, 0, 1);
        y.harm(1, 256);
        y.harm(2, 256);
        C.due("bytes", y.tick(12), 3);
        counters(y, "two lost", 0, is(14, 1), is(15, 0));
        y.tick(4);
        counters(y, "a gap", 0, is(14, 2), is(15, 1));
        FieldLine z = asked(0, 8, 0, 0, 1);
        for (int i = 4; i < 7; i++) {
            z.harm(i, 256);
        }
        z.tick(28);
        states(z, "all done", is(1, 0), is(2, 0), is(10, 7), is(3, 2));
        z.tick(1);
        counters(z, "not yet", 0, is(1, 0), is(14, 4));
        z.tick(1);
        counters(z, "the silence began with the lost ones", 0, is(1, 1), is(14, 0));
    }

    private static void oneByteIsAFrame() {
        FieldLine x = asked(0, 17);
        for (int i = 1; i < 4; i++) {
            x.harm(i, 256);
        }
        x.tick(ENDED);
        counters(x, "a byte alone", 0, is(1, 1), is(14, 0), is(10, 1));
        FieldLine y = asked(0, 17);
        for (int i = 0; i < 4; i++) {
            y.harm(i, 256);
        }
        y.tick(ENDED);
        counters(y, "no byte at all", 0, is(1, 0), is(10, 0));
        states(y, "no byte at all", is(10, 4));
    }

    private static void lateBytes() {
        FieldLine x = asked(0, 17);
        x.harm(0, 340);
        x.tick(84);
        states(x, "late", is(1, 1), is(10, 0));
        x.tick(4);
        states(x, "late", is(10, 1));
        x.tick(12 + 14);
        counters(x, "a late first byte is no gap", 0, is(0, 1));
        FieldLine y = asked(0, 17);
        y.harm(2, 262);
        y.tick(ENDED + 6);
        counters(y, "six ticks are no gap", 0, is(0, 1), is(1, 0));
        FieldLine z = asked(0, 17);
        z.harm(2, 263);
        z.tick(12 + 7);
        counters(z, "seven ticks are one", 0, is(15, 1), is(14, 3));
        z.tick(18);
        counters(z, "spoilt", 0, is(0, 0), is(1, 1), is(15, 0));
        C.due("event", z.event(0, 0), 130);
    }

    private static void lateByteEndsAFrame() {
        FieldLine x = asked(0, 17);
        x.harm(2, 270);
        x.tick(8 + 13);
        counters(x, "thirteen", 0, is(14, 2), is(1, 0));
        x.tick(1);
        counters(x, "fourteen", 0, is(14, 0), is(1, 1));
        x.tick(8);
        counters(x, "the rest", 0, is(14, 2), is(15, 0));
        x.tick(14);
        counters(x, "the rest ends", 0, is(1, 2), is(14, 0), is(10, 2));
    }

    private static void lateAnswer() {
        FieldLine x = asked(0, 17);
        x.harm(4 + 3, 280);
        x.tick(ENDED + 12 + 14);
        C.result(x, "the answer ends too soon", 2, 2, 1, 0);
        states(x, "still sends", is(1, 2), is(3, 0), is(9, 0));
        x.tick(100);
        states(x, "the rest is stray", is(1, 0), is(9, 1), is(7, 1));
    }

    private static void othersHear() {
        FieldLine x = asked(0, 17);
        x.device(6, 0);
        x.tick(200);
        counters(x, "the one that is asked", 0, is(0, 1), is(3, 1), is(10, 2));
        counters(x, "the other", 1, is(0, 2), is(1, 0), is(3, 0), is(4, 0), is(10, 0), is(14, 0));
    }

    private static void newReplyInPlace() {
        FieldLine x = line(200);
        x.settings(1, 20, 0);
        Check.request(x, 5, 17);
        Check.request(x, 5, 11);
        Check.request(x, 5, 8, 0, 4, 0, 0);
        x.tick(ENDED);
        counters(x, "first", 0, is(12, 7), is(13, 200));
        x.tick(36);
        counters(x, "second in place", 0, is(12, 8), is(13, 200));
        x.tick(60);
        counters(x, "nothing comes: it stays", 0, is(9, 1), is(12, 8), is(13, 140), is(4, 1));
        x.tick(200);
        states(x, "one reply", is(16, 4), is(9, 1), is(7, 3));
    }

    private static void deafDevice() {
        FieldLine x = line(0);
        x.settings(1, 20, 0);
        x.bank(0, 0, 0, 8);
        Check.load(x, 8, 0, 4, 0, 0);
        x.serve(0);
        Check.request(x, 5, 17);
        x.tick(100);
        counters(x, "deaf", 0, is(0, 1), is(3, 1), is(4, 1), is(9, 1), is(12, 0));
        C.due("event", x.event(0, 0), 160);
        Check.request(x, 0, 5, 0, 1, 255, 0);
        x.tick(100);
        C.due("event of one to all", x.event(0, 0), 224);
        C.due("not served", x.get(0, 0, 1), 0);
        Check.request(x, 0, 8, 0, 1, 0, 0);
        x.tick(100);
        counters(x, "no restart by address 0", 0, is(9, 1), is(4, 3));
        Check.request(x, 5, 8, 0, 1, 0, 1);
        x.tick(100);
        counters(x, "no restart of another value", 0, is(9, 1), is(4, 4));
        x.bank(0, 2, 0, 8);
        Check.request(x, 5, 6, 0, 1, 255, 0);
        Check.request(x, 5, 8, 0, 20, 0, 0);
        Check.request(x, 5, 8, 0, 0);
        x.tick(300);
        C.due("no other function", x.get(0, 2, 1), 0);
        counters(x, "no other function", 0, is(8, 1), is(4, 7), is(12, 0));
        x.busy(0, 1);
        Check.request(x, 5, 8, 0, 1, 0, 0);
        x.tick(100);
        counters(x, "busy", 0, is(9, 1), is(4, 8), is(11, 1), is(6, 0));
        x.busy(0, 0);
        x.harm(0, 1);
        Check.request(x, 5, 17);
        x.tick(100);
        C.due("event of a bad frame", x.event(0, 0), 162);
        Check.request(x, 5, 8, 0, 1, 0, 0);
        x.tick(100);
        counters(x, "restart", 0, is(9, 0), is(0, 0), is(1, 0), is(3, 0), is(4, 1), is(8, 0), is(12, 0));
        C.due("event", x.event(0, 0), 0);
        C.due("event ahead", x.event(0, 1), 160);
    }

    private static void messagesToAll() {
        FieldLine x = line(0);
        x.device(6, 0);
        for (int d = 0; d < 2; d++) {
            x.bank(d, 0, 0, 8);
            x.bank(d, 2, 0, 8);
            x.file(d, 1, 2);
        }
        x.busy(1, 1);
        Check.request(x, 0, 5, 0, 1, 255, 0);
        Check.request(x, 0, 6, 0, 1, 0, 9);
        Check.request(x, 0, 15, 0, 4, 0, 2, 1, 3);
        Check.request(x, 0, 16, 0, 2, 0, 1, 2, 0, 5);
        Check.request(x, 0, 21, 9, 6, 0, 1, 0, 1, 0, 1, 7, 7);
        Check.request(x, 0, 22, 0, 3, 0, 0, 0, 4);
        Check.request(x, 0, 23, 0, 0, 0, 1, 0, 5, 0, 1, 2, 0, 5);
        Check.request(x, 0, 8, 0, 4, 0, 0);
        x.tick(1000);
        for (int d = 0; d < 2; d++) {
            C.due("coil", x.get(d, 0, 1), d == 0 ? 1 : 0);
            C.due("register", x.get(d, 2, 1), 9);
            C.due("coil", x.get(d, 0, 5), 1);
            C.due("register", x.get(d, 2, 2), 5);
            C.due("file", x.record(d, 1, 1), 1799);
            C.due("register", x.get(d, 2, 3), 4);
            C.due("23 is not served", x.get(d, 2, 5), 0);
            counters(x, "all", d, is(0, 8), is(3, 8), is(4, 8), is(2, 0), is(6, d), is(8, 6 - d), is(9, 0), is(10, 8));
            C.due("event", x.event(d, 0), 192);
        }
        states(x, "all", is(7, 8), is(16, 8), is(9, 0));
        C.result(x, "to all", 0, 0, 1, 0);
    }

    private static void eventsGoRound() {
        FieldLine x = line(0);
        for (int i = 0; i < 70; i++) {
            Check.load(x, 8, 0, i % 3 == 0 ? 4 : 1, 0, 0);
            x.serve(0);
        }
        counters(x, "events", 0, is(10, 64));
        for (int k = 0; k < 64; k++) {
            C.due("event " + k, x.event(0, k), (69 - k) % 3 == 0 ? 4 : 0);
        }
        C.due("none older", x.event(0, 64), -1);
    }

    private static void deviceInTheMiddle() {
        FieldLine x = asked(0, 17);
        x.tick(6);
        C.due("a new device", x.device(6, 0), 1);
        x.tick(2);
        counters(x, "hears the rest", 1, is(14, 1), is(15, 0));
        x.tick(8 + 14);
        counters(x, "not good", 1, is(1, 1), is(0, 0), is(14, 0));
        counters(x, "good", 0, is(1, 0), is(0, 1));
    }
}
