/** Promise 21 and what part 5 of the terms tells of scans. */
public final class ScansTest extends Check {
    public static void main(String[] args) {
        scanNumbers();
        scanTicks();
        scanAddress();
        scanTape();
        scansEight();
        timeAtFirst();
        inOrderAheadOfSending();
        timeLater();
        formerInTheRow();
        formerBehindOthers();
        formerJustGone();
        formerGoesLater();
        roomTaken();
        noRoom();
        roomForOne();
        requestLikeOthers();
        end("ScansTest");
    }

    private static FieldLine line() {
        FieldLine x = new FieldLine();
        x.device(5, 0);
        x.device(6, 0);
        x.settings(1, 20, 0);
        return x;
    }

    private static int scan(FieldLine x, int every, int address, int... pdu) {
        load(x, pdu);
        return x.scan(every, address);
    }

    private static void scanNumbers() {
        sentence("21: a scan: its number, from 0 on");
        FieldLine x = line();
        for (int i = 0; i < 3; i++) {
            due("scan " + i, scan(x, 100, 5, 17), i);
            states(x, "scans", 13, i + 1, 5, 0);
        }
    }

    private static void scanTicks() {
        sentence("21: each so many ticks (50 to 30000)");
        FieldLine x = line();
        load(x, 17);
        int[] wrong = {49, 0, -1, 30001, Integer.MIN_VALUE, Integer.MAX_VALUE};
        for (int every : wrong) {
            due("every " + every, x.scan(every, 5), NONE);
        }
        tapeIs(x, "the tape stays", 17);
        states(x, "none came", 13, 0);
        due("every 50", x.scan(50, 0), 0);
        x.tick(50);
        states(x, "T 49", 16, 0);
        x.tick(1);
        states(x, "T 50", 16, 1);
        FieldLine y = line();
        due("every 30000", scan(y, 30000, 5, 17), 0);
        ticks(y, 30000);
        states(y, "T 29999", 16, 0);
        y.tick(1);
        states(y, "T 30000", 16, 1);
    }

    private static void scanAddress() {
        sentence("21: a request to an address with the TAPE as request() (the address)");
        FieldLine x = line();
        load(x, 17);
        int[] wrong = {-1, 248, Integer.MIN_VALUE, Integer.MAX_VALUE};
        for (int address : wrong) {
            due("address " + address, x.scan(50, address), NONE);
        }
        tapeIs(x, "the tape stays", 17);
        due("address 0", x.scan(50, 0), 0);
        due("address 247", scan(x, 50, 247, 17), 1);
    }

    private static void scanTape() {
        sentence("21: a request to an address with the TAPE as request() (1 to 253 bytes; empty then)");
        FieldLine x = line();
        due("an empty tape", x.scan(50, 5), NONE);
        int[] tooLong = repeat(1, 254);
        due("254 bytes", scan(x, 50, 5, tooLong), NONE);
        tapeIs(x, "the tape stays", tooLong);
        states(x, "none came", 13, 0);
        x.end(253);
        due("253 bytes", x.scan(50, 5), 0);
        tapeIs(x, "the tape is empty");
        due("1 byte", scan(x, 50, 5, 17), 1);
        tapeIs(x, "the tape is empty");
        x.tick(51);
        int[] frame = frame(5, repeat(1, 253));
        for (int i = 0; i < 256; i++) {
            due("byte " + i, x.sent(i), frame[i]);
        }
    }

    private static void scansEight() {
        sentence("21: NONE with 8");
        FieldLine x = line();
        for (int i = 0; i < 8; i++) {
            due("scan " + i, scan(x, 100, 5, 17), i);
        }
        due("a ninth", scan(x, 100, 5, 17), NONE);
        tapeIs(x, "the tape stays", 17);
        states(x, "eight", 13, 8);
        x.tick(101);
        states(x, "eight requests", 5, 8);
    }

    private static void timeAtFirst() {
        sentence("Terms 5: a scan's TIME is at first the clock and its ticks");
        FieldLine x = line();
        x.tick(7);
        scan(x, 60, 0, 17);
        x.tick(60);
        states(x, "T 66", 0, 67, 5, 0);
        x.tick(1);
        states(x, "T 67", 0, 68, 5, 1);
    }

    private static void inOrderAheadOfSending() {
        sentence("Terms 1: b. SCANS, in order, whose time it is (ahead of c)");
        FieldLine x = line();
        scan(x, 60, 5, 17);
        scan(x, 61, 6, 17);
        scan(x, 60, 6, 11);
        x.tick(61);
        states(x, "two came", 5, 2);
        states(x, "the first one is sent at once", 1, 1, 6, 1);
        due("its address", x.sent(0), 5);
        x.tick(250);
        int[] functions = {17, 11, 17};
        int[] addresses = {5, 6, 6};
        for (int i = 0; i < 3; i++) {
            due("number", x.result(0), i);
            due("address", x.result(5), addresses[i]);
            due("function", x.data(0), functions[i]);
            x.take();
        }
    }

    private static void timeLater() {
        sentence("Terms 5: when it has come, TIME is so many ticks later");
        FieldLine x = line();
        x.tick(3);
        scan(x, 50, 0, 17);
        x.tick(50);
        for (int i = 1; i <= 5; i++) {
            x.tick(1);
            states(x, "came", 5, 1, 16, i);
            x.tick(49);
            states(x, "not yet", 5, 0, 16, i, 7, i);
        }
    }

    private static void formerInTheRow() {
        sentence("Terms 5: a request comes, if the scan's former one is not in the row any more");
        FieldLine x = line();
        x.settings(1, 60, 0);
        scan(x, 50, 50, 17);
        x.tick(51);
        states(x, "the first one", 5, 1, 16, 1);
        x.tick(50);
        states(x, "it is in the row: none comes", 0, 101, 5, 1, 16, 1);
        due("the next number", request(x, 0, 17), 1);
        x.tick(25);
        states(x, "it is gone", 5, 1, 7, 1);
        x.tick(24);
        states(x, "T 149", 0, 150, 5, 0, 7, 2);
        x.tick(1);
        states(x, "T 150", 5, 1, 16, 2);
        x.tick(6);
        states(x, "the wire is idle", 16, 3);
        due("its address", x.sent(0), 50);
        due("it had the number 2", request(x, 0, 17), 3);
    }

    private static void formerBehindOthers() {
        sentence("Terms 5: if the scan's former one is not in the row any more (it is not the first one there)");
        for (int behind = 1; behind <= 14; behind++) {
            FieldLine x = line();
            x.settings(1, 1000, 0);
            scan(x, 50, 0, 17);
            for (int i = 0; i < behind; i++) {
                request(x, 50, 17);
            }
            x.tick(51);
            states(x, "the scan's came behind " + behind, 5, behind + 1);
            x.tick(50);
            states(x, "none comes", 0, 101, 5, behind + 1);
            request(x, 50, 17);
            x.tick(50);
            states(x, "with one behind it, none comes", 0, 151, 5, behind + 2);
        }
    }

    /** Ways in which a scan's request goes from the row: its address, its function, the ticks from its coming to its going. */
    private static final int[][] WAYS = {
        {0, 17, 65},   // DONE at TURN
        {50, 17, 75},  // FAILED at TIMEOUT
        {5, 17, 71},   // DONE by an answer
        {5, 99, 63},   // REFUSED
    };
    /** How many requests went before: none, some, as many as RESULTS are kept, more than that. */
    private static final int[] BEFORE = {0, 5, 32, 39};

    /** A line whose row is full: its first request is a scan's, which goes in the next tick. */
    private static FieldLine fullRow(int[] way, int before, int every) {
        FieldLine x = line();
        for (int i = 0; i < before; i++) {
            request(x, 0, 17);
            x.tick(31);
        }
        x.settings(1, 60, 50);
        scan(x, every, way[0], way[1]);
        x.tick(every + 1);
        for (int i = 1; i <= 15; i++) {
            due("a request behind the scan's", request(x, 0, 17), before + i);
        }
        x.tick(way[2] - 1);
        states(x, "the row is full", 5, 16, 6, 1, 7, Math.min(before, 32));
        due("a request without room", request(x, 0, 17), NONE);
        return x;
    }

    private static String wayName(int[] way, int before) {
        return "function " + way[1] + " to " + way[0] + " behind " + before;
    }

    private static void formerJustGone() {
        sentence("Terms 5: if the scan's former one is not in the row any more (the first one of 16, just gone)");
        for (int[] way : WAYS) {
            for (int before : BEFORE) {
                String name = wayName(way, before);
                FieldLine x = fullRow(way, before, way[2] + 1);
                x.tick(1);
                states(x, name + ": it is gone", 5, 15, 7, Math.min(before + 1, 32), 8, Math.max(before - 31, 0));
                x.tick(1);
                states(x, name + ": the next one came", 5, 16);
                due(name + ": a request without room", request(x, 0, 17), NONE);
                x.settings(1, 60, 0);
                for (int i = 0; i < 32; i++) {
                    x.take();
                }
                x.tick(1000);
                for (int i = 1; i <= 16; i++) {
                    due(name + ": number", x.result(0), before + i);
                    due(name + ": address", x.result(5), i < 16 ? 0 : way[0]);
                    x.take();
                }
            }
        }
    }

    private static void formerGoesLater() {
        sentence("Terms 5: if the scan's former one is not in the row any more (it goes later in the same tick)");
        for (int[] way : WAYS) {
            for (int before : BEFORE) {
                String name = wayName(way, before);
                FieldLine x = fullRow(way, before, way[2]);
                x.tick(1);
                states(x, name + ": it is gone", 5, 15);
                x.tick(1);
                states(x, name + ": none came", 5, 15);
                due(name + ": the next number", request(x, 0, 17), before + 16);
            }
        }
    }

    private static void roomTaken() {
        sentence("Terms 5: and there is room (the former one's was taken by another)");
        for (int[] way : WAYS) {
            for (int before : BEFORE) {
                String name = wayName(way, before);
                FieldLine x = fullRow(way, before, way[2] + 2);
                x.tick(1);
                due(name + ": a request in its room", request(x, 0, 17), before + 16);
                x.tick(2);
                states(x, name + ": no room", 5, 16);
                x.settings(1, 60, 0);
                x.tick(20);
                states(x, name + ": the next one is gone", 5, 15);
                due(name + ": the next number", request(x, 0, 17), before + 17);
            }
        }
    }

    private static void noRoom() {
        sentence("Terms 5: and there is room");
        FieldLine x = line();
        x.settings(1, 1000, 0);
        scan(x, 50, 0, 17);
        for (int i = 0; i < 16; i++) {
            request(x, 50, 17);
        }
        x.tick(51);
        states(x, "no room", 5, 16);
        x.settings(1, 20, 0);
        x.tick(1);
        states(x, "room behind its time", 5, 15);
        x.tick(48);
        states(x, "T 99", 0, 100, 5, 14);
        x.tick(1);
        states(x, "T 100", 5, 15);
        due("the scan's had the number 16", request(x, 50, 17), 17);
    }

    private static void roomForOne() {
        sentence("Terms 5: and there is room (for one of two)");
        FieldLine x = line();
        x.settings(1, 1000, 0);
        scan(x, 50, 5, 17);
        scan(x, 50, 6, 17);
        for (int i = 0; i < 15; i++) {
            request(x, 50, 17);
        }
        x.tick(51);
        states(x, "one came", 5, 16);
        x.settings(1, 20, 0);
        ticks(x, 700);
        for (int i = 0; i < 15; i++) {
            x.take();
        }
        due("the first scan's", x.result(5), 5);
        due("its number", x.result(0), 15);
    }

    private static void requestLikeOthers() {
        sentence("Terms 5: a request like others comes");
        FieldLine x = line();
        x.settings(3, 20, 0);
        request(x, 0, 17);
        scan(x, 50, 50, 17, 1, 2);
        x.tick(50);
        states(x, "not yet", 5, 0);
        x.tick(1);
        int[] frame = frame(50, 17, 1, 2);
        for (int i = 0; i < frame.length; i++) {
            due("byte " + i, x.sent(i), frame[i]);
        }
        x.tick(150);
        x.take();
        due("its number", x.result(0), 1);
        due("its address", x.result(5), 50);
        result(x, "failed", 2, 1, 3, 0);
    }
}
