/** Part 1 of the terms, and promises 22, 23, 27 and 30: bytes on their way, harms, ticks and states. */
public final class WireTest extends Check {
    /** Ticks until a frame of a PDU of one byte was sent, and until it has ended. */
    private static final int SENT = 16;
    private static final int ENDED = SENT + 14;

    public static void main(String[] args) {
        bytesAndHarms();
        hearing();
        orderOfATick();
        endsOfFrames();
        goodFrames();
        harmCalls();
        tickCalls();
        states();
        sent();
        end("WireTest");
    }

    /** Devices of the addresses 5 and 6; the master asks once. */
    private static FieldLine line(int lag) {
        FieldLine x = new FieldLine();
        x.device(5, lag);
        x.device(6, lag);
        x.bank(0, 2, 0, 8);
        x.settings(1, 5000, 40);
        return x;
    }

    private static FieldLine asked(int... pdu) {
        FieldLine x = line(0);
        request(x, 5, pdu);
        return x;
    }

    private static void bytesAndHarms() {
        byteNumbers();
        turnedBytes();
        lostByte();
        lateByte();
        harmBeforeTheFirstTick();
        harmBeforeTheFirstTickOfLateness();
        fourTicks();
    }

    private static void byteNumbers() {
        sentence("Terms 1: a BYTE that is sent has a number (of all bytes ever sent, from 0 on)");
        FieldLine x = asked(17);
        x.harm(4 + 6, 1);
        x.harm(4 + 7, 256);
        request(x, 5, 17);
        x.tick(SENT + 14 + 28 + 14);
        states(x, "the last byte of the reply is turned", 7, 1, 11, 1);
        result(x, "the first one", 2, 2, 1, 0);
        x.tick(4);
        states(x, "the first byte of the next frame is lost", 11, 0, 10, 12);
        counters(x, 0, "lost", 14, 0);
    }

    private static void turnedBytes() {
        sentence("Terms 1: its bits are turned (xor x)");
        int[] meant = {6, 0, 1, 255, 0xAA};
        int[] heard = {6, 0, 1, 0, 0xAB};
        FieldLine x = asked(meant);
        turn(x, 0, frame(5, meant), frame(5, heard));
        x.tick(32 + 14);
        due("the register", x.get(0, 2, 1), 0xAB);
        counters(x, 0, "good", 0, 1, 1, 0);
    }

    private static void lostByte() {
        sentence("Terms 1: or it is LOST");
        FieldLine x = asked(8, 0, 0, 1);
        x.harm(1, 256);
        due("bytes done", x.tick(8), 2);
        counters(x, 0, "not heard", 14, 1, 15, 0);
        x.tick(4);
        counters(x, 0, "the next one is", 14, 2, 15, 0);
    }

    private static void lateByte() {
        sentence("Terms 1: or it comes LATE by some ticks; LATE ones these ticks ahead");
        int[] late = {1, 2, 83, 84};
        for (int ticks : late) {
            FieldLine x = asked(17);
            x.harm(0, 256 + ticks);
            due("none yet", x.tick(ticks + 3), 0);
            counters(x, 0, "not heard yet", 14, 0);
            states(x, "it is sent", 1, 1, 3, 1);
            due("done", x.tick(1), 1);
            counters(x, 0, "heard", 14, 1);
            due("the next one is not late", x.tick(4), 1);
        }
    }

    private static void harmBeforeTheFirstTick() {
        sentence("Terms 1: a harm counts if it was told before the byte's first tick");
        FieldLine x = asked(8, 0, 0, 1);
        x.tick(4);
        due("told just before it", x.harm(0, 256), true);
        x.tick(1);
        states(x, "it is begun", 11, 0);
        due("told behind its first tick", x.harm(0, 256), true);
        states(x, "it counts for the next one", 11, 1);
        x.tick(3);
        counters(x, 0, "the second is lost", 14, 1);
        x.tick(4);
        counters(x, 0, "the third is lost", 14, 1);
        states(x, "no more", 11, 0);
        x.tick(4);
        counters(x, 0, "the fourth is heard", 14, 2);
    }

    private static void harmBeforeTheFirstTickOfLateness() {
        sentence("Terms 1: or the first one of its lateness");
        FieldLine x = asked(8, 0, 0, 1);
        x.harm(0, 266);
        x.tick(1);
        states(x, "its lateness is begun", 11, 0);
        x.harm(0, 256);
        states(x, "it counts for the next one", 11, 1);
        x.tick(13);
        counters(x, 0, "the late one is heard", 14, 1);
        x.tick(4);
        counters(x, 0, "the second is lost", 14, 1);
        x.tick(4);
        counters(x, 0, "the third is heard", 14, 2);
    }

    private static void fourTicks() {
        sentence("Terms 1: a byte takes 4 ticks; as its fourth tick is done, each other station hears it");
        FieldLine x = asked(17);
        for (int i = 1; i <= SENT; i++) {
            due("bytes in tick " + i, x.tick(1), i % 4 == 0 ? 1 : 0);
            counters(x, 0, "tick " + i, 14, i / 4);
            counters(x, 1, "tick " + i, 14, i / 4);
        }
        x.tick(14 + 4);
        counters(x, 0, "who sends does not hear", 14, 0);
        counters(x, 1, "the other one does", 14, 1);
    }

    private static void hearing() {
        gapOfSix();
        gapOfLostBytes();
        firstByteIsNeverSpoilt();
        fullRow();
        newDeviceInTheMiddle();
    }

    private static void gapOfSix() {
        sentence("Terms 1: if its ROW has bytes and QUIET is above 6, it is SPOILT");
        for (int gap = 5; gap <= 8; gap++) {
            FieldLine x = asked(17);
            x.harm(2, 256 + gap);
            x.tick(12 + gap);
            counters(x, 0, "a gap of " + gap, 14, 3, 15, gap > 6 ? 1 : 0);
            x.tick(4 + 13);
            counters(x, 0, "not ended", 0, 0, 1, 0, 15, gap > 6 ? 1 : 0);
            x.tick(1);
            counters(x, 0, "ended", 0, gap > 6 ? 0 : 1, 1, gap > 6 ? 1 : 0, 15, 0);
        }
    }

    private static void gapOfLostBytes() {
        sentence("Terms 1: QUIET is 0 (as a byte is heard), one more in each tick of a LOST one");
        for (int late = 1; late <= 3; late++) {
            FieldLine x = asked(8, 0, 0, 1);
            x.harm(1, 256);
            x.harm(2, 256 + late);
            x.tick(12 + late);
            counters(x, 0, "a lost byte, and " + late, 14, 2, 15, late > 2 ? 1 : 0);
        }
        FieldLine y = asked(8, 0, 0, 1);
        y.harm(1, 260);
        y.harm(2, 260);
        y.tick(12 + 8);
        counters(y, 0, "two gaps of 4", 14, 3, 15, 0);
    }

    private static void firstByteIsNeverSpoilt() {
        sentence("Terms 1: if its ROW has bytes (an empty one)");
        FieldLine x = asked(17);
        x.harm(0, 340);
        x.tick(88);
        counters(x, 0, "the first byte", 14, 1, 15, 0);
        x.tick(12 + 14);
        counters(x, 0, "good", 0, 1, 1, 0);
    }

    private static void fullRow() {
        sentence("Terms 1: if its ROW has 256, else the byte comes behind the ROW");
        FieldLine x = line(0);
        request(x, 5, join(bytes(8, 0, 0), repeat(9, 250)));
        ticks(x, 1020);
        counters(x, 0, "all but one", 14, 255, 15, 0);
        x.tick(4);
        counters(x, 0, "all", 14, 256, 15, 0);
        x.tick(14);
        counters(x, 0, "good", 0, 1, 1, 0, 7, 0, 14, 0, 12, 256);
        ticks(x, 1024 + 14);
        result(x, "the master's row", 0, 0, 1, 253);
    }

    private static void newDeviceInTheMiddle() {
        sentence("Terms 1: each has a ROW of bytes (of a new device)");
        FieldLine x = asked(17);
        x.tick(6);
        due("a new device", x.device(7, 0), 2);
        x.tick(2);
        counters(x, 2, "hears the byte that is on its way", 14, 1, 15, 0);
        x.tick(8 + 14);
        counters(x, 2, "not good", 0, 0, 1, 1, 14, 0);
        counters(x, 0, "good", 0, 1, 1, 0);
    }

    private static void orderOfATick() {
        wireMustBeIdle();
        masterAheadOfDevices();
        devicesByNumber();
        lagRunsDown();
        idleOfTheWire();
    }

    private static void wireMustBeIdle() {
        sentence("Terms 1: c. if nobody sends and IDLE is 14 or more");
        FieldLine x = line(0);
        x.settings(1, 20, 0);
        request(x, 0, 17);
        request(x, 0, 17);
        x.tick(SENT);
        states(x, "sent", 1, 0, 2, 0, 16, 1);
        x.tick(1);
        states(x, "the master is free", 3, 0, 5, 1);
        x.tick(12);
        states(x, "IDLE 13", 1, 0, 2, 13, 16, 1);
        x.tick(1);
        states(x, "IDLE 14", 1, 0, 2, 14, 16, 1);
        x.tick(1);
        states(x, "begun", 1, 1, 2, 14, 16, 2);
        FieldLine y = line(0);
        request(y, 5, 17);
        y.tick(1);
        states(y, "at first", 1, 1, 16, 1);
    }

    private static void masterAheadOfDevices() {
        sentence("Terms 1: c. the first one that wants to send begins: the master, then devices");
        FieldLine x = line(100);
        x.settings(1, 20, 0);
        request(x, 5, 17);
        x.tick(ENDED + 100);
        counters(x, 0, "its reply could be begun", 12, 7, 13, 0);
        request(x, 6, 17);
        x.tick(1);
        states(x, "the master", 1, 1, 16, 2);
        counters(x, 0, "its reply waits", 12, 7, 13, 0);
        x.tick(15 + 14);
        states(x, "nobody", 1, 0, 3, 2);
        x.tick(1);
        states(x, "the device, while the master waits", 1, 2, 16, 3);
        counters(x, 0, "none any more", 12, 0, 13, 0);
    }

    private static void devicesByNumber() {
        sentence("Terms 1: c. then devices by number, which have a REPLY whose LAG is 0");
        FieldLine x = line(100);
        x.settings(1, 20, 0);
        request(x, 6, 17);
        request(x, 5, 17);
        request(x, 50, repeat(1, 253));
        x.tick(72);
        counters(x, 1, "the older reply", 12, 7, 13, 58);
        counters(x, 0, "the younger one", 12, 7, 13, 94);
        x.tick(1000);
        states(x, "the master sends", 1, 1, 16, 3);
        counters(x, 0, "both wait", 12, 7, 13, 0);
        counters(x, 1, "both wait", 12, 7, 13, 0);
        x.tick(24 + 14);
        states(x, "nobody", 1, 0);
        x.tick(1);
        states(x, "device 0", 1, 2, 16, 4);
        counters(x, 1, "device 1 waits", 12, 7);
        x.tick(27 + 14);
        states(x, "nobody", 1, 0);
        x.tick(1);
        states(x, "device 1", 1, 3, 16, 5);
    }

    private static void lagRunsDown() {
        sentence("Terms 1: d. each device's LAG, above 0, is one less");
        FieldLine x = line(2);
        request(x, 5, 17);
        x.tick(ENDED);
        counters(x, 0, "at first", 13, 2);
        x.tick(1);
        counters(x, 0, "one less", 13, 1);
        x.tick(1);
        counters(x, 0, "none", 13, 0);
        states(x, "not begun in that tick", 1, 0);
        x.tick(1);
        states(x, "begun in the next one", 1, 2);
        counters(x, 0, "still none", 13, 0);
        x.tick(100);
        counters(x, 0, "and later", 13, 0);
    }

    private static void idleOfTheWire() {
        sentence("Terms 1: e. behind the last byte nobody sends, IDLE is 0; else IDLE is one more");
        FieldLine x = line(0);
        x.tick(3);
        states(x, "nobody sends", 2, 17);
        request(x, 5, 17);
        x.tick(SENT - 1);
        states(x, "the last byte is not done", 1, 1, 2, 17);
        x.tick(1);
        states(x, "it is done", 1, 0, 2, 0);
        x.tick(1);
        states(x, "a tick later", 2, 1);
        FieldLine y = asked(17);
        y.harm(3, 256);
        y.tick(SENT);
        states(y, "a lost one, too", 1, 0, 2, 0, 3, 2);
    }

    private static void endsOfFrames() {
        endsAtFourteen();
        lostBytesAreSilence();
        lateBytesAreSilence();
        silenceWhileADeviceSends();
        emptyRowEndsNothing();
        rowIsEmptyThen();
    }

    private static void endsAtFourteen() {
        sentence("Terms 1: f. where it is 14 then, and the ROW has bytes, its frame ENDS");
        FieldLine x = asked(17);
        x.tick(SENT + 13);
        counters(x, 0, "thirteen", 14, 4, 0, 0);
        x.tick(1);
        counters(x, 0, "fourteen", 14, 0, 0, 1);
        x.tick(1 + 27 + 13);
        states(x, "thirteen at the master", 7, 0, 3, 2);
        x.tick(1);
        states(x, "fourteen at the master", 7, 1, 3, 0);
    }

    private static void lostBytesAreSilence() {
        sentence("Terms 1: f. if e did no tick of a byte that is not LOST: QUIET of each station is one more");
        FieldLine x = asked(8, 0, 0, 1);
        for (int i = 4; i < 7; i++) {
            x.harm(i, 256);
        }
        x.tick(28 + 1);
        counters(x, 0, "twelve of lost bytes and one", 1, 0, 14, 4);
        x.tick(1);
        counters(x, 0, "and two", 1, 1, 14, 0);
        FieldLine y = asked(8, 0, 0, 1, 2, 3);
        for (int i = 2; i < 6; i++) {
            y.harm(i, 256);
        }
        y.tick(8 + 13);
        counters(y, 0, "thirteen while the master sends", 1, 0, 14, 2);
        y.tick(1);
        counters(y, 0, "fourteen while the master sends", 1, 1, 14, 0);
        states(y, "it still sends", 1, 1);
    }

    private static void lateBytesAreSilence() {
        sentence("Terms 1: f. (in ticks of lateness)");
        FieldLine x = asked(17);
        x.harm(2, 256 + 13);
        x.tick(8 + 13 + 4);
        counters(x, 0, "thirteen", 14, 3, 15, 1, 1, 0);
        FieldLine y = asked(17);
        y.harm(2, 256 + 14);
        y.tick(8 + 13);
        counters(y, 0, "thirteen", 14, 2, 1, 0);
        y.tick(1);
        counters(y, 0, "fourteen", 14, 0, 1, 1);
        y.tick(8);
        counters(y, 0, "the rest is a new row", 14, 2, 15, 0);
        y.tick(14);
        counters(y, 0, "that ends, too", 14, 0, 1, 2);
        events(y, 0, "two bad frames", 130, 130);
    }

    private static void silenceWhileADeviceSends() {
        sentence("Terms 1: f. QUIET of each station is one more, of all but who sends in e");
        for (int d = 0; d < 3; d++) {
            for (int late = 6; late <= 7; late++) {
                FieldLine x = threeDevices();
                request(x, 5 + d, 17);
                x.harm(4 + 2, 256 + late);
                x.tick(ENDED + 12 + late);
                states(x, "the device sends", 1, 2 + d);
                for (int other = 0; other < 3; other++) {
                    boolean hears = other != d;
                    counters(x, other, "late by " + late, 14, hears ? 3 : 0, 15, hears && late > 6 ? 1 : 0);
                }
                x.tick(16 + 14);
                result(x, "at the master", late > 6 ? 2 : 0, late > 6 ? 2 : 0, 1, late > 6 ? 0 : 4);
            }
            FieldLine y = threeDevices();
            request(y, 5 + d, 17);
            for (int i = 2; i < 6; i++) {
                y.harm(4 + i, 256);
            }
            y.tick(ENDED + 8 + 13);
            states(y, "thirteen while the device sends", 1, 2 + d, 7, 0);
            counters(y, (d + 1) % 3, "thirteen", 1, 0, 14, 2);
            counters(y, (d + 2) % 3, "thirteen", 1, 0, 14, 2);
            y.tick(1);
            states(y, "fourteen while the device sends", 1, 2 + d, 7, 1);
            counters(y, (d + 1) % 3, "fourteen", 1, 1, 14, 0);
            counters(y, (d + 2) % 3, "fourteen", 1, 1, 14, 0);
        }
    }

    private static FieldLine threeDevices() {
        FieldLine x = line(0);
        x.device(7, 0);
        return x;
    }

    private static void emptyRowEndsNothing() {
        sentence("Terms 1: f. and the ROW has bytes (none)");
        FieldLine x = asked(17);
        for (int i = 0; i < 4; i++) {
            x.harm(i, 256);
        }
        x.tick(100);
        counters(x, 0, "no byte at all", 0, 0, 1, 0);
        events(x, 0, "no byte at all");
        states(x, "all done", 10, 4);
        FieldLine y = asked(17);
        for (int i = 1; i < 4; i++) {
            y.harm(i, 256);
        }
        y.tick(100);
        counters(y, 0, "one byte", 0, 0, 1, 1);
    }

    private static void rowIsEmptyThen() {
        sentence("Terms 1: f. the ROW is empty then, not SPOILT");
        FieldLine x = asked(17);
        x.harm(2, 264);
        x.settings(3, 50, 0);
        x.tick(8 + 8 + 8 + 14);
        counters(x, 0, "a spoilt one", 1, 1, 14, 0, 15, 0);
        x.tick(100);
        counters(x, 0, "the next one is good", 0, 1, 1, 1);
    }

    private static void goodFrames() {
        fourBytesAtLeast();
        sumOfTheOthers();
        notSpoilt();
    }

    private static void fourBytesAtLeast() {
        sentence("Terms 1: GOOD: has 4 bytes at least");
        int[] meant = frame(5, 17);
        int three = sum(5);
        FieldLine x = asked(17);
        x.harm(1, 256);
        x.harm(2, meant[2] ^ three % 256);
        x.harm(3, meant[3] ^ three / 256);
        x.tick(SENT);
        counters(x, 0, "three bytes, the right sum", 14, 3, 15, 0);
        x.tick(14);
        counters(x, 0, "three bytes, the right sum", 0, 0, 1, 1);
        FieldLine y = asked(17);
        y.harm(0, 256);
        y.harm(1, 256);
        y.harm(2, meant[2] ^ 255);
        y.harm(3, meant[3] ^ 255);
        y.tick(ENDED);
        counters(y, 0, "two bytes, the sum of none", 0, 0, 1, 1);
        FieldLine z = asked(17);
        z.tick(ENDED);
        counters(z, 0, "four bytes", 0, 1, 1, 0);
    }

    private static void sumOfTheOthers() {
        sentence("Terms 1: GOOD: whose last two are the SUM of the others (the lower byte first)");
        int[] meant = frame(5, 17);
        for (int i = 0; i < 4; i++) {
            FieldLine x = asked(17);
            x.harm(i, 1);
            x.tick(ENDED);
            counters(x, 0, "byte " + i + " is turned", 0, 0, 1, 1);
        }
        FieldLine y = asked(17);
        y.harm(2, meant[2] ^ meant[3]);
        y.harm(3, meant[2] ^ meant[3]);
        y.tick(ENDED);
        counters(y, 0, "the higher byte first", 0, 0, 1, 1);
    }

    private static void notSpoilt() {
        sentence("Terms 1: GOOD is a frame that is not SPOILT");
        FieldLine x = asked(17);
        x.harm(3, 263);
        x.tick(ENDED + 7);
        counters(x, 0, "all bytes are right", 0, 0, 1, 1);
        FieldLine y = asked(17);
        y.harm(4 + 1, 263);
        y.tick(ENDED + 28 + 7 + 14);
        result(y, "at the master", 2, 2, 1, 0);
    }

    private static void harmCalls() {
        harmNumbers();
        harmKinds();
        harmInPlace();
        harmsFull();
        harmsOfBegunBytes();
    }

    private static void harmNumbers() {
        sentence("22: the n-th byte (0 to 2000) of those that are sent from now on");
        FieldLine x = asked(17);
        int[] wrong = {-1, 2001, Integer.MIN_VALUE, Integer.MAX_VALUE};
        for (int n : wrong) {
            due("n " + n, x.harm(n, 1), false);
        }
        states(x, "none is told", 11, 0);
        due("n 2000", x.harm(2000, 256), true);
        due("n 0", x.harm(0, 256), true);
        states(x, "two are told", 11, 2);
        x.tick(4);
        counters(x, 0, "0 is the next one that is begun", 14, 0);
        states(x, "one is left", 11, 1);
    }

    private static void harmKinds() {
        sentence("22: x 1 to 255 bits turned, 256 LOST, 257 to 340 LATE; false: other numbers");
        FieldLine x = asked(17);
        int[] wrong = {0, -1, 341, Integer.MIN_VALUE, Integer.MAX_VALUE};
        for (int kind : wrong) {
            due("x " + kind, x.harm(0, kind), false);
        }
        states(x, "none is told", 11, 0);
        int[] right = {1, 255, 256, 257, 340};
        for (int i = 0; i < right.length; i++) {
            due("x " + right[i], x.harm(i, right[i]), true);
        }
        states(x, "five are told", 11, 5);
        due("two turned ones, a lost one", x.tick(12), 3);
        counters(x, 0, "the lost one is not heard", 14, 2);
        due("late by one", x.tick(4), 0);
        due("late by one", x.tick(1), 1);
    }

    private static void harmInPlace() {
        sentence("22: has a HARM, in place of one");
        FieldLine x = asked(17);
        x.harm(0, 256);
        due("another one", x.harm(0, 257), true);
        states(x, "one is told", 11, 1);
        x.tick(4);
        due("late by one", x.state(10), 0);
        x.tick(1);
        counters(x, 0, "it is not lost", 14, 1);
    }

    private static void harmsFull() {
        sentence("22: false: 64 others are told of bytes that are not begun");
        FieldLine x = asked(17);
        for (int i = 0; i < 63; i++) {
            due("harm " + i, x.harm(100 + i, 1 + i), true);
        }
        due("the 64th", x.harm(0, 256), true);
        states(x, "full", 11, 64);
        due("a 65th", x.harm(1, 256), false);
        due("in place of the first", x.harm(100, 5), true);
        due("in place of the last", x.harm(0, 257), true);
        states(x, "full", 11, 64);
        x.tick(1);
        states(x, "one is begun", 11, 63);
        due("then there is room", x.harm(1, 256), true);
        due("but for one", x.harm(0, 256), false);
        x.tick(4);
        counters(x, 0, "the late one", 14, 1);
        x.tick(4);
        counters(x, 0, "the refused one is not lost", 14, 2);
        x.tick(4);
        counters(x, 0, "the last one told is", 14, 2);
    }

    private static void harmsOfBegunBytes() {
        sentence("27: 11 harms of bytes that are not begun");
        FieldLine x = asked(17);
        x.harm(0, 1);
        x.harm(3, 1);
        x.harm(1, 1);
        states(x, "three", 11, 3);
        x.tick(1);
        states(x, "two", 11, 2);
        x.tick(3);
        states(x, "two", 11, 2);
        x.tick(1);
        states(x, "one", 11, 1);
        x.tick(8);
        states(x, "none", 11, 0);
    }

    private static void tickCalls() {
        sentence("23: IllegalArgumentException: not 1 to 1000");
        FieldLine x = asked(17);
        int[] wrong = {0, -1, 1001, Integer.MIN_VALUE, Integer.MAX_VALUE};
        for (int n : wrong) {
            due("tick(" + n + ") throws", tickThrows(x, n), true);
        }
        states(x, "nothing is changed", 0, 0, 1, 0, 16, 0, 2, 14);
        due("tick(1) throws", tickThrows(x, 1), false);
        due("tick(1000) throws", tickThrows(x, 1000), false);
        states(x, "the clock", 0, 1001);
        sentence("23: so many ticks: how many bytes were done in them");
        FieldLine y = asked(17);
        int[][] runs = {{3, 0}, {1, 1}, {7, 1}, {1, 1}, {4, 1}, {14, 0}, {28, 7}, {1000, 0}};
        for (int[] run : runs) {
            due("tick(" + run[0] + ")", y.tick(run[0]), run[1]);
        }
        states(y, "in all", 10, 11);
    }

    private static void states() {
        stateWhat();
        stateWhoSends();
        stateIdleAtMost();
        stateOfTheMaster();
        stateBytesDone();
        stateFramesBegun();
    }

    private static void stateWhat() {
        sentence("27: NONE for another what");
        FieldLine x = line(0);
        int[] wrong = {-1, 17, 18, Integer.MIN_VALUE, Integer.MAX_VALUE};
        for (int what : wrong) {
            due("state(" + what + ")", x.state(what), NONE);
        }
        states(x, "the first and the last", 0, 0, 16, 0);
    }

    private static void stateWhoSends() {
        sentence("27: 1 who sends (0 nobody, 1 the master, 2 and the device's number)");
        FieldLine x = new FieldLine();
        for (int d = 0; d < 6; d++) {
            x.device(10 + d, 0);
        }
        states(x, "nobody", 1, 0, 12, 6);
        for (int d = 0; d < 6; d += 5) {
            request(x, 10 + d, 17);
            x.tick(1);
            states(x, "the master", 1, 1);
            x.tick(ENDED);
            states(x, "the device", 1, 2 + d);
            x.tick(100);
            states(x, "nobody", 1, 0);
        }
    }

    private static void stateIdleAtMost() {
        sentence("27: 2 IDLE (at most 1000 is told)");
        FieldLine x = line(0);
        x.tick(985);
        states(x, "999", 2, 999);
        x.tick(1);
        states(x, "1000", 2, 1000);
        x.tick(1);
        states(x, "1001", 2, 1000);
        x.tick(1000);
        states(x, "2001", 2, 1000);
    }

    private static void stateOfTheMaster() {
        sentence("27: 3 the master: 0 FREE, 1 SENDS, 2 WAITS, 4 its WAIT (0 else), 5 requests, 6 ATTEMPTS (0)");
        FieldLine x = asked(17);
        states(x, "free", 3, 0, 4, 0, 5, 1, 6, 0);
        x.tick(1);
        states(x, "sends", 3, 1, 4, 0, 5, 1, 6, 1);
        x.tick(14);
        states(x, "sends", 3, 1, 4, 0);
        x.tick(1);
        states(x, "waits", 3, 2, 4, 0, 5, 1, 6, 1);
        x.tick(1);
        states(x, "waits", 3, 2, 4, 1);
        x.tick(100);
        states(x, "free", 3, 0, 4, 0, 5, 0, 6, 0, 7, 1);
    }

    private static void stateBytesDone() {
        sentence("27: 10 bytes done ever (LOST ones, too)");
        FieldLine x = asked(17);
        x.harm(1, 256);
        x.harm(3, 256);
        for (int i = 1; i <= SENT; i++) {
            x.tick(1);
            states(x, "tick " + i, 10, i / 4);
        }
    }

    private static void stateFramesBegun() {
        sentence("27: 16 frames begun, 0 the clock");
        FieldLine x = asked(17);
        states(x, "none", 16, 0, 0, 0);
        x.tick(1);
        states(x, "the request", 16, 1, 0, 1);
        x.tick(ENDED - 1);
        states(x, "the request", 16, 1, 0, ENDED);
        x.tick(1);
        states(x, "the reply", 16, 2);
        x.tick(500);
        states(x, "the reply", 16, 2, 0, ENDED + 501);
    }

    private static void sent() {
        sentence("30: byte k of the frame that is sent, or was sent latest; NONE without one");
        FieldLine x = asked(17);
        due("none yet", x.sent(0), NONE);
        x.tick(1);
        sentIs(x, "the request", frame(5, 17));
        x.tick(ENDED - 1);
        sentIs(x, "the request still", frame(5, 17));
        x.tick(1);
        sentIs(x, "the reply", frame(5, 17, 2, 0, 255));
        x.tick(500);
        sentIs(x, "the reply still", frame(5, 17, 2, 0, 255));
        request(x, 6, 7);
        x.tick(1);
        sentIs(x, "a shorter one", frame(6, 7));
        sentence("30: as it was meant, without harms");
        FieldLine y = asked(17);
        y.harm(0, 255);
        y.harm(1, 256);
        y.harm(2, 300);
        y.tick(100);
        sentIs(y, "harmed", frame(5, 17));
        sentence("30: byte k of the frame (the longest one)");
        FieldLine z = asked(repeat(1, 253));
        z.tick(1);
        sentIs(z, "256 bytes", frame(5, repeat(1, 253)));
    }

    private static void sentIs(FieldLine x, String when, int[] want) {
        for (int k = 0; k < want.length; k++) {
            due(when + ": sent(" + k + ")", x.sent(k), want[k]);
        }
        int[] none = {want.length, -1, Integer.MIN_VALUE, Integer.MAX_VALUE};
        for (int k : none) {
            due(when + ": sent(" + k + ")", x.sent(k), NONE);
        }
    }
}
