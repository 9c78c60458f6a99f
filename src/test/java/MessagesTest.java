/** Part 3 of the terms, a frame that ends at a device, and promises 28 and 29: counter and event. */
public final class MessagesTest extends Check {
    /** Ticks until a frame of a PDU of one byte was sent, and until it has ended. */
    private static final int SENT = 16;
    private static final int ENDED = SENT + 14;

    public static void main(String[] args) {
        badFrame();
        badFrameAtADeafOne();
        frameOfAnother();
        message();
        messageOfADevice();
        messageToAll();
        deafHearsOnlyARestart();
        deafRestartAsItMustBe();
        deafRestartToAll();
        deafRestartWhileBusy();
        deafRestart();
        servedToAll();
        notServedToAll();
        busyToAll();
        replyInPlace();
        replyIsWhatCameThen();
        noReplyLeavesTheFormer();
        deafRestartLeavesTheFormer();
        replyLag();
        replyFrame();
        noReplyCounts();
        refusalCounts();
        busyRefusalCounts();
        anotherReply();
        counterWhat();
        counterWithoutDevice();
        counterOfRow();
        counterOfReply();
        eventWithoutOne();
        end("MessagesTest");
    }

    /** Devices of the addresses 5 and 6; the master asks once, and does not wait long. */
    private static FieldLine line(int lag) {
        FieldLine x = new FieldLine();
        x.device(5, lag);
        x.device(6, lag);
        for (int d = 0; d < 2; d++) {
            x.bank(d, 0, 0, 8);
            x.bank(d, 2, 0, 8);
            x.file(d, 1, 2);
        }
        x.settings(1, 20, 0);
        return x;
    }

    private static FieldLine deafLine() {
        FieldLine x = line(0);
        load(x, 8, 0, 4, 0, 0);
        x.serve(0);
        return x;
    }

    private static void ask(FieldLine x, int address, int... pdu) {
        request(x, address, pdu);
        x.tick(150);
    }

    private static void badFrame() {
        sentence("Terms 3: not GOOD: counter 1 is one more; EVENT 130");
        FieldLine x = line(0);
        x.harm(1, 128);
        ask(x, 5, 17);
        counters(x, 0, "turned", 0, 0, 1, 1, 2, 0, 3, 0, 4, 0, 7, 0, 8, 0, 12, 0);
        events(x, 0, "turned", 130);
        counters(x, 1, "the other one hears it, too", 1, 1);
        events(x, 1, "the other one", 130);
    }

    private static void badFrameAtADeafOne() {
        sentence("Terms 3: EVENT 130, 32 more if DEAF");
        FieldLine x = deafLine();
        x.harm(0, 1);
        ask(x, 5, 17);
        counters(x, 0, "turned", 1, 1, 4, 0);
        events(x, 0, "turned", 162, 4);
    }

    private static void frameOfAnother() {
        sentence("Terms 3: GOOD: counter 0; with another address than its own and 0 nothing more");
        FieldLine x = line(0);
        ask(x, 5, 17);
        counters(x, 1, "request and reply", 0, 2, 1, 0, 3, 0, 4, 0, 8, 0);
        events(x, 1, "none");
        ask(x, 50, 6, 0, 1, 0, 9);
        counters(x, 0, "nobody's", 0, 2, 3, 1);
        due("the register", x.get(0, 2, 1), 0);
        int[] others = {1, 4, 7, 133, 247, 248, 255};
        for (int address : others) {
            FieldLine y = line(0);
            request(y, 5, 6, 0, 1, 0, 9);
            turn(y, 0, frame(5, 6, 0, 1, 0, 9), frame(address, 6, 0, 1, 0, 9));
            y.tick(150);
            counters(y, 0, "address " + address, 0, 1, 1, 0, 3, 0, 4, 0, 8, 0, 12, 0);
            due("the register", y.get(0, 2, 1), 0);
            events(y, 0, "address " + address);
        }
        FieldLine deaf = deafLine();
        ask(deaf, 6, 17);
        counters(deaf, 0, "a deaf one: request and reply", 0, 2, 1, 0, 3, 0, 4, 0, 8, 1);
        events(deaf, 0, "a deaf one", 4);
    }

    private static void message() {
        sentence("Terms 3: a MESSAGE: counter 3; EVENT 128, 32 more if DEAF");
        FieldLine x = line(0);
        ask(x, 5, 17);
        counters(x, 0, "a message", 0, 1, 3, 1);
        events(x, 0, "a message", 64, 128);
        FieldLine deaf = deafLine();
        ask(deaf, 5, 17);
        counters(deaf, 0, "deaf", 0, 1, 3, 1, 4, 1);
        events(deaf, 0, "deaf", 160, 4);
    }

    private static void messageOfADevice() {
        sentence("Terms 3: a MESSAGE: GOOD, with its own address (whoever sent it)");
        FieldLine x = line(0);
        request(x, 5, 17);
        turn(x, 4, frame(5, 17, 2, 0, 255), frame(6, 5, 0, 1, 255));
        x.tick(150);
        counters(x, 1, "a bad coil value", 0, 2, 1, 0, 2, 1, 3, 1, 4, 0);
        events(x, 1, "a refusal", 65, 128);
        FieldLine y = line(0);
        request(y, 5, 8, 0, 0, 7, 7);
        turn(y, 8, frame(5, 8, 0, 0, 7, 7), frame(0, 6, 0, 1, 7, 7));
        y.tick(200);
        due("served to all: the register", y.get(1, 2, 1), 1799);
        due("who sent it does not hear it", y.get(0, 2, 1), 0);
        counters(y, 1, "to all", 3, 1, 4, 1, 8, 1);
        counters(y, 0, "who sent it", 3, 1, 4, 0, 8, 1);
    }

    private static void messageToAll() {
        sentence("Terms 3: EVENT 128, 64 more of address 0");
        FieldLine x = line(0);
        ask(x, 0, 17);
        events(x, 0, "to all", 192);
        events(x, 1, "to all", 192);
        FieldLine deaf = deafLine();
        ask(deaf, 0, 17);
        events(deaf, 0, "deaf, to all", 224, 4);
        counters(deaf, 0, "deaf, to all", 0, 1, 3, 1, 4, 1);
    }

    private static void deafHearsOnlyARestart() {
        sentence("Terms 3: DEAF: only a RESTART is SERVED; no REPLY");
        int[][] others = {{5, 0, 1, 255, 0}, {6, 0, 1, 0, 9}, {15, 0, 1, 0, 1, 1, 1}, {16, 0, 1, 0, 1, 2, 0, 9},
            {8, 0, 0}, {8, 0, 10, 0, 0}, {8, 0, 20, 0, 0}, {17}, {99}};
        FieldLine x = deafLine();
        for (int i = 0; i < others.length; i++) {
            ask(x, 5, others[i]);
            ask(x, 0, others[i]);
            counters(x, 0, "function " + others[i][0], 4, 2 * i + 2, 8, 1, 9, 1, 12, 0, 2, 0);
        }
        due("the coil", x.get(0, 0, 1), 0);
        due("the register", x.get(0, 2, 1), 0);
    }

    private static void deafRestartAsItMustBe() {
        sentence("Terms 3: a RESTART (8 with 1, as it must be)");
        int[][] wrong = {{8, 0, 1, 0, 1}, {8, 0, 1, 255, 255}, {8, 0, 1}, {8, 0, 1, 0}, {8, 0, 1, 0, 0, 0}, {8, 1, 1, 0, 0},
            {8, 0, 0, 0, 0}, {8, 0, 2, 0, 0}, {6, 0, 1, 0, 0}};
        FieldLine x = deafLine();
        for (int[] pdu : wrong) {
            ask(x, 5, pdu);
            counters(x, 0, "still deaf behind " + java.util.Arrays.toString(pdu), 9, 1, 8, 1, 12, 0);
        }
    }

    private static void deafRestartToAll() {
        sentence("Terms 3: a RESTART (to its own address)");
        FieldLine x = deafLine();
        ask(x, 0, 8, 0, 1, 0, 0);
        ask(x, 6, 8, 0, 1, 0, 0);
        counters(x, 0, "still deaf", 9, 1);
    }

    private static void deafRestartWhileBusy() {
        sentence("Terms 3: DEAF: a RESTART is SERVED, if the device is not BUSY");
        FieldLine x = deafLine();
        x.busy(0, 1);
        ask(x, 5, 8, 0, 1, 0, 0);
        counters(x, 0, "busy", 9, 1, 4, 1, 11, 1, 6, 0, 12, 0);
        events(x, 0, "busy", 160, 4);
        x.busy(0, 0);
        ask(x, 5, 8, 0, 1, 0, 0);
        counters(x, 0, "not busy", 9, 0);
    }

    private static void deafRestart() {
        sentence("Terms 3: DEAF: a RESTART is SERVED; no REPLY. Without a REPLY counter 4 is one more");
        int[] values = {0, 255};
        for (int v : values) {
            FieldLine x = deafLine();
            ask(x, 5, 8, 0, 1, v, 0);
            counters(x, 0, "restart", 0, 0, 1, 0, 2, 0, 3, 0, 4, 1, 8, 0, 9, 0, 12, 0);
            if (v == 0) {
                events(x, 0, "restart", 0, 160, 4);
            } else {
                events(x, 0, "restart", 0);
            }
            states(x, "no reply", 16, 1);
        }
    }

    private static void servedToAll() {
        sentence("Terms 3: address 0: 5, 6, 15, 16, 21, 22 are SERVED; no REPLY");
        FieldLine x = line(0);
        int[][] served = {{5, 0, 1, 255, 0}, {6, 0, 1, 0, 9}, {15, 0, 4, 0, 2, 1, 3}, {16, 0, 2, 0, 1, 2, 0, 5},
            {21, 9, 6, 0, 1, 0, 1, 0, 1, 7, 7}, {22, 0, 3, 0, 0, 0, 4}};
        for (int i = 0; i < served.length; i++) {
            ask(x, 0, served[i]);
            counters(x, 0, "function " + served[i][0], 8, i + 1, 4, i + 1, 12, 0);
        }
        for (int d = 0; d < 2; d++) {
            due("5", x.get(d, 0, 1), 1);
            due("6", x.get(d, 2, 1), 9);
            due("15", x.get(d, 0, 4) + x.get(d, 0, 5), 2);
            due("16", x.get(d, 2, 2), 5);
            due("21", x.record(d, 1, 1), 1799);
            due("22", x.get(d, 2, 3), 4);
        }
        states(x, "no replies", 16, served.length, 9, 0);
        FieldLine y = line(0);
        ask(y, 0, 6, 0, 8, 0, 9);
        counters(y, 0, "a refusal is no reply", 2, 0, 4, 1, 8, 0, 12, 0);
        events(y, 0, "a refusal is no reply", 192);
    }

    private static void notServedToAll() {
        sentence("Terms 3: address 0: all others aren't");
        FieldLine x = line(0);
        x.queue(0, 1);
        name(x, 0, 0, 65);
        int[][] others = {{1, 0, 0, 0, 1}, {2, 0, 0, 0, 1}, {3, 0, 0, 0, 1}, {4, 0, 0, 0, 1}, {7}, {8, 0, 0},
            {8, 0, 1, 255, 0}, {8, 0, 4, 0, 0}, {8, 0, 10, 0, 0}, {11}, {12}, {17}, {20, 7, 6, 0, 1, 0, 0, 0, 1},
            {23, 0, 0, 0, 1, 0, 5, 0, 1, 2, 0, 5}, {24, 0, 1}, {43, 14, 1, 0}, {14}, {99}};
        for (int i = 0; i < others.length; i++) {
            ask(x, 0, others[i]);
            counters(x, 0, "function " + others[i][0], 3, i + 1, 4, i + 1, 8, 0, 9, 0, 12, 0, 10, i + 1);
        }
        due("23", x.get(0, 2, 5), 0);
        x.busy(0, 1);
        ask(x, 0, 17);
        counters(x, 0, "busy still", 11, 1, 6, 0);
    }

    private static void busyToAll() {
        sentence("Terms 3: SERVED: the device is BUSY (of address 0, too)");
        FieldLine x = line(0);
        x.busy(1, 1);
        ask(x, 0, 6, 0, 1, 0, 9);
        counters(x, 1, "busy", 11, 0, 6, 1, 8, 0, 2, 0, 4, 1, 12, 0);
        due("not written", x.get(1, 2, 1), 0);
        due("the other one", x.get(0, 2, 1), 9);
    }

    private static void replyInPlace() {
        sentence("Terms 3: its REPLY, in place of one that it has not begun to send");
        FieldLine x = line(200);
        request(x, 5, 17);
        request(x, 5, 11);
        x.tick(ENDED);
        counters(x, 0, "the first", 12, 7, 13, 200);
        x.tick(36);
        counters(x, 0, "the second", 12, 8, 13, 200);
        events(x, 0, "both were replies", 64, 128, 64, 128);
        x.tick(500);
        states(x, "one reply", 16, 3);
        due("the second", x.sent(1), 11);
        events(x, 0, "no more", 64, 128, 64, 128);
    }

    private static void replyIsWhatCameThen() {
        sentence("Terms 3: else it is SERVED; what comes is its REPLY (at once, though it is sent later)");
        FieldLine x = line(100);
        x.put(0, 2, 1, 9);
        request(x, 5, 3, 0, 1, 0, 1);
        x.tick(32 + 13);
        x.put(0, 2, 1, 10);
        x.tick(1);
        counters(x, 0, "served", 8, 1, 12, 7);
        events(x, 0, "served", 64, 128);
        x.put(0, 2, 1, 11);
        x.busy(0, 9);
        x.tick(101);
        due("the value as it was then", x.sent(3) * 256 + x.sent(4), 10);
        FieldLine y = line(100);
        request(y, 5, 6, 0, 1, 0, 9);
        y.tick(32 + 14);
        due("written at once", y.get(0, 2, 1), 9);
        states(y, "not yet sent", 16, 1);
        FieldLine z = line(100);
        request(z, 5, 99);
        z.tick(ENDED);
        counters(z, 0, "refused at once", 2, 1, 12, 5);
        events(z, 0, "refused at once", 65, 128);
    }

    private static void noReplyLeavesTheFormer() {
        sentence("Terms 3: without one that stays");
        FieldLine x = line(200);
        request(x, 5, 17);
        request(x, 5, 8, 0, 4, 0, 0);
        request(x, 5, 11);
        request(x, 0, 6, 0, 1, 0, 9);
        x.tick(ENDED);
        counters(x, 0, "the first", 12, 7, 13, 200);
        x.tick(52);
        counters(x, 0, "nothing comes", 9, 1, 12, 7, 13, 148, 4, 1);
        x.tick(100);
        counters(x, 0, "deaf, and one to all", 12, 7, 13, 48, 4, 3);
        x.tick(300);
        due("it is sent", x.sent(1), 17);
        states(x, "it is sent", 16, 5);
    }

    private static void deafRestartLeavesTheFormer() {
        sentence("Terms 3: without one that stays (a RESTART of a DEAF one)");
        FieldLine x = line(200);
        request(x, 5, 17);
        request(x, 5, 8, 0, 4, 0, 0);
        request(x, 5, 8, 0, 1, 0, 0);
        x.tick(ENDED);
        counters(x, 0, "the first", 12, 7, 13, 200);
        x.tick(104);
        counters(x, 0, "restarted", 9, 0, 12, 7, 13, 96, 4, 1);
        x.tick(300);
        due("it is sent", x.sent(1), 17);
        states(x, "it is sent", 16, 4);
    }

    private static void replyLag() {
        sentence("Terms 3: the REPLY's LAG is the device's at first");
        int[] lags = {0, 1, 2000};
        for (int lag : lags) {
            FieldLine x = line(lag);
            request(x, 5, 17);
            x.tick(ENDED);
            counters(x, 0, "at first", 12, 7, 13, lag);
            ticks(x, lag);
            counters(x, 0, "none left", 12, 7, 13, 0);
            states(x, "not begun", 1, 0, 16, 1);
            x.tick(1);
            counters(x, 0, "begun", 12, 0, 13, 0);
            states(x, "begun", 1, 2, 16, 2);
        }
        FieldLine y = new FieldLine();
        int[] differing = {7, 0, 100};
        for (int d = 0; d < 3; d++) {
            y.device(5 + d, differing[d]);
        }
        for (int d = 0; d < 3; d++) {
            request(y, 5 + d, 17);
            y.tick(ENDED);
            counters(y, d, "each device's own", 12, 7, 13, differing[d]);
            y.tick(300);
        }
    }

    private static void replyFrame() {
        sentence("Terms 3: it is sent as a frame of the device's address");
        FieldLine x = line(0);
        request(x, 6, 17);
        x.tick(ENDED + 1);
        int[] frame = frame(6, 17, 2, 1, 255);
        for (int i = 0; i < frame.length; i++) {
            due("byte " + i, x.sent(i), frame[i]);
        }
        due("none behind", x.sent(frame.length), NONE);
    }

    private static void noReplyCounts() {
        sentence("Terms 3: without a REPLY counter 4 is one more");
        FieldLine x = line(0);
        ask(x, 5, 8, 0, 4, 0, 0);
        counters(x, 0, "nothing comes", 2, 0, 3, 1, 4, 1);
        events(x, 0, "nothing comes", 4, 128);
    }

    private static void refusalCounts() {
        sentence("Terms 3: a REFUSAL that is a REPLY: counter 2; EVENT 65 for 1 to 3");
        int[][] refused = {{99}, {1, 0, 8, 0, 1}, {1, 0, 0, 0, 0}};
        for (int code = 1; code <= 3; code++) {
            FieldLine x = line(0);
            ask(x, 5, refused[code - 1]);
            counters(x, 0, "refused with " + code, 2, 1, 3, 1, 4, 0, 6, 0, 8, 0);
            events(x, 0, "refused with " + code, 65, 128);
            due("the code", x.sent(2), code);
        }
        int[] functions = {0, 126, 127, 128, 134, 255};
        for (int f : functions) {
            FieldLine y = line(0);
            ask(y, 5, f);
            counters(y, 0, "function " + f, 2, 1, 4, 0);
            events(y, 0, "function " + f, 65, 128);
        }
    }

    private static void busyRefusalCounts() {
        sentence("Terms 3: EVENT 68 for 6");
        FieldLine x = line(0);
        x.busy(0, 1);
        ask(x, 5, 17);
        counters(x, 0, "busy", 2, 1, 3, 1, 4, 0, 6, 1, 8, 0, 11, 0);
        events(x, 0, "busy", 68, 128);
        FieldLine y = line(0);
        y.busy(0, 1);
        ask(y, 5, 99);
        counters(y, 0, "busy", 2, 1, 6, 1);
        events(y, 0, "busy, whatever the function", 68, 128);
    }

    private static void anotherReply() {
        sentence("Terms 3: another REPLY: EVENT 64");
        for (int coils = 0; coils < 8; coils++) {
            FieldLine y = line(0);
            for (int at = 0; at < 3; at++) {
                y.put(0, 0, at, coils >> at);
            }
            ask(y, 5, 7);
            due("two bytes came", y.sent(2), coils);
            counters(y, 0, "two bytes that are no refusal", 2, 0, 3, 1, 4, 0, 8, 1);
            events(y, 0, "two bytes that are no refusal", 64, 128);
        }
        FieldLine x = line(0);
        ask(x, 5, 8, 0, 1, 255, 0);
        counters(x, 0, "a restart", 0, 0, 2, 0, 3, 0, 4, 0, 8, 0);
        events(x, 0, "a restart", 64, 0);
    }

    private static void counterWhat() {
        sentence("28: NONE for another what");
        FieldLine x = line(0);
        int[] wrong = {-1, 17, 18, Integer.MIN_VALUE, Integer.MAX_VALUE};
        for (int what : wrong) {
            due("counter(0, " + what + ")", x.counter(0, what), NONE);
        }
        for (int what = 0; what <= 16; what++) {
            due("counter(1, " + what + ")", x.counter(1, what), what == 16 ? 6 : 0);
        }
    }

    private static void counterWithoutDevice() {
        sentence("28: NONE: no such device");
        FieldLine x = line(0);
        int[] wrong = {-1, 2, 6, Integer.MIN_VALUE, Integer.MAX_VALUE};
        for (int d : wrong) {
            due("counter(" + d + ", 0)", x.counter(d, 0), NONE);
            due("counter(" + d + ", 16)", x.counter(d, 16), NONE);
        }
    }

    private static void counterOfRow() {
        sentence("28: 14 bytes in its ROW, 15 whether that is SPOILT");
        FieldLine x = line(0);
        request(x, 5, 17);
        x.harm(1, 256);
        x.harm(2, 256);
        x.tick(3);
        counters(x, 0, "no byte yet", 14, 0, 15, 0);
        x.tick(1);
        counters(x, 0, "a byte", 14, 1, 15, 0);
        x.tick(8);
        counters(x, 0, "two lost ones", 14, 1, 15, 0);
        x.tick(4);
        counters(x, 0, "the last one", 14, 2, 15, 1);
        x.tick(13);
        counters(x, 0, "nearly ended", 14, 2, 15, 1);
        x.tick(1);
        counters(x, 0, "ended", 14, 0, 15, 0);
    }

    private static void counterOfReply() {
        sentence("28: 12 bytes of the frame of a REPLY that it has not begun, 13 that one's LAG now (0 without)");
        FieldLine x = line(3);
        request(x, 5, join(bytes(8, 0, 0), repeat(1, 250)));
        x.tick(1000);
        counters(x, 0, "none yet", 12, 0, 13, 0);
        x.tick(24 + 14);
        counters(x, 0, "a reply", 12, 256, 13, 3);
        x.tick(1);
        counters(x, 0, "a tick later", 12, 256, 13, 2);
        x.tick(3);
        counters(x, 0, "begun", 12, 0, 13, 0);
        FieldLine y = line(0);
        request(y, 5, 99);
        y.tick(ENDED);
        counters(y, 0, "a refusal", 12, 5, 13, 0);
    }

    private static void eventWithoutOne() {
        sentence("29: EVENT k of a device, the latest 0; NONE without one");
        FieldLine x = line(0);
        due("none yet", x.event(0, 0), NONE);
        ask(x, 5, 99);
        due("event(0, 0)", x.event(0, 0), 65);
        due("event(0, 1)", x.event(0, 1), 128);
        int[] wrong = {2, 64, -1, Integer.MIN_VALUE, Integer.MAX_VALUE};
        for (int k : wrong) {
            due("event(0, " + k + ")", x.event(0, k), NONE);
        }
        due("of another device", x.event(1, 0), NONE);
        due("event(2, 0)", x.event(2, 0), NONE);
        due("event(-1, 0)", x.event(-1, 0), NONE);
    }
}
