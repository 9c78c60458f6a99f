/** Promises 19 to 21 and 24 to 27: requests, scans, settings and results. */
public final class MasterTest {
    private static final Check C = new Check("MasterTest");

    public static void main(String[] args) {
        settings();
        requestCalls();
        noAnswer();
        settingsInTheMiddle();
        busyAndRefused();
        badAnswers();
        turn();
        strayFrames();
        strayWithARequestInTheRow();
        waitsForTheWire();
        results();
        lostResults();
        scanCalls();
        scans();
        scansWithoutRoom();
        C.end();
    }

    private static FieldLine line(int lag) {
        FieldLine x = new FieldLine();
        x.device(5, lag);
        x.device(6, lag);
        x.bank(0, 2, 0, 10);
        return x;
    }

    private static void settings() {
        FieldLine x = line(0);
        C.due("attempts 0", x.settings(0, 200, 40), false);
        C.due("attempts 10", x.settings(10, 200, 40), false);
        C.due("timeout 19", x.settings(3, 19, 40), false);
        C.due("timeout 5001", x.settings(3, 5001, 40), false);
        C.due("turn -1", x.settings(3, 200, -1), false);
        C.due("turn 2001", x.settings(3, 200, 2001), false);
        C.due("least", x.settings(1, 20, 0), true);
        C.due("greatest", x.settings(9, 5000, 2000), true);
    }

    private static void requestCalls() {
        FieldLine x = line(0);
        C.due("an empty tape", x.request(5), -1);
        Check.load(x, Check.repeat(1, 254));
        C.due("254 bytes", x.request(5), -1);
        C.due("the tape stays", x.state(14), 254);
        x.end(253);
        C.due("address -1", x.request(-1), -1);
        C.due("address 248", x.request(248), -1);
        C.due("253 bytes", x.request(247), 0);
        C.due("the tape is empty", x.state(14), 0);
        for (int i = 1; i < 16; i++) {
            C.due("request " + i, Check.request(x, i == 1 ? 0 : 5, 17), i);
        }
        C.due("a seventeenth", Check.request(x, 5, 17), -1);
        C.due("the tape stays", x.state(14), 1);
        C.due("state(5)", x.state(5), 16);
        C.due("state(6)", x.state(6), 0);
        x.tick(1);
        C.due("state(6)", x.state(6), 1);
        C.due("it stays in the row", x.state(5), 16);
        C.due("a frame of 256 bytes", x.sent(255) >= 0 && x.sent(256) == -1, true);
        C.due("bytes", x.tick(1000), 250);
    }

    private static void noAnswer() {
        FieldLine x = line(0);
        Check.request(x, 50, 17);
        x.tick(16 + 199);
        C.due("the first attempt waits", x.state(4), 199);
        x.tick(1);
        C.due("it fails", x.state(3), 0);
        C.due("the request stays", x.state(5), 1);
        x.tick(1);
        C.due("the second one", x.state(6), 2);
        x.tick(2 * 216 - 2);
        C.due("no result yet", x.state(7), 0);
        C.due("the third waits", x.state(6), 3);
        x.tick(1);
        C.due("the result", x.state(7), 1);
        C.result(x, "failed", 2, 1, 3, 0);
        C.due("number", x.result(0), 0);
        C.due("address", x.result(5), 50);
        C.due("frames", x.state(16), 3);
    }

    private static void settingsInTheMiddle() {
        FieldLine x = line(0);
        Check.request(x, 50, 17);
        x.tick(217);
        x.settings(1, 20, 0);
        x.tick(16 + 18);
        C.due("no result yet", x.state(7), 0);
        x.tick(1);
        C.result(x, "more attempts than the setting", 2, 1, 2, 0);
        x.settings(3, 1000, 0);
        Check.request(x, 50, 17);
        x.tick(100);
        x.settings(3, 50, 0);
        C.due("waits", x.state(3), 2);
        x.tick(1);
        C.due("a shorter timeout counts at once", x.state(3), 0);
    }

    private static void busyAndRefused() {
        FieldLine x = line(0);
        x.busy(0, 2);
        Check.request(x, 5, 17);
        x.tick(500);
        C.result(x, "busy twice", 0, 0, 3, 4);
        C.due("data(3)", x.data(3), 255);
        C.due("counter 2", x.counter(0, 2), 2);
        C.due("counter 6", x.counter(0, 6), 2);
        C.due("event", x.event(0, 2), 68);
        x.take();
        x.busy(0, 3);
        Check.request(x, 5, 17);
        x.tick(500);
        C.result(x, "busy thrice", 2, 4, 3, 0);
        x.take();
        int[][] refused = {{99, 1}, {3, 2, 0, 9, 0, 2}, {7, 3, 1}};
        for (int[] r : refused) {
            int[] pdu = r.length == 2 ? new int[] {r[0]} : r.length == 3 ? new int[] {r[0], r[2]}
                    : new int[] {r[0], r[2], r[3], r[4], r[5]};
            Check.request(x, 5, pdu);
            x.tick(300);
            C.result(x, "refused", 1, r[1], 1, 0);
            C.due("event", x.event(0, 0), 65);
            x.take();
        }
        C.due("counter 2", x.counter(0, 2), 8);
    }

    private static void badAnswers() {
        FieldLine x = line(0);
        Check.request(x, 5, 17);
        x.harm(4 + 2, 1);
        x.tick(300);
        C.result(x, "a bad answer, then a right one", 0, 0, 2, 4);
        C.due("no stray", x.state(9), 0);
        x.take();
        x.settings(1, 200, 40);
        Check.request(x, 5, 17);
        x.harm(4 + 2, 256);
        x.tick(300);
        C.result(x, "a bad answer", 2, 2, 1, 0);
    }

    private static void turn() {
        FieldLine x = line(0);
        Check.request(x, 0, 5, 0, 0, 0, 0);
        x.tick(32 + 39);
        C.due("waits", x.state(4), 39);
        x.tick(1);
        C.due("done", x.state(7), 1);
        C.due("free", x.state(3), 0);
        C.result(x, "to all", 0, 0, 1, 0);
        C.due("address", x.result(5), 0);
        C.due("data throws", throwsIndex(x, 0), true);
        x.settings(3, 200, 0);
        Check.request(x, 0, 5, 0, 0, 0, 0);
        Check.request(x, 0, 5, 0, 0, 0, 0);
        x.tick(33);
        C.due("a turn of 0 is one tick", x.state(7), 2);
        x.tick(13);
        C.due("the wire is not idle enough", x.state(1), 0);
        x.tick(1);
        C.due("the next one", x.state(1), 1);
    }

    private static void strayFrames() {
        FieldLine x = line(100);
        x.settings(1, 20, 200);
        Check.request(x, 5, 17);
        x.tick(300);
        C.result(x, "too late", 2, 1, 1, 0);
        C.due("stray to a free master", x.state(9), 1);
        x.take();
        Check.request(x, 5, 17);
        Check.request(x, 0, 5, 0, 0, 0, 0);
        x.tick(250);
        C.due("stray in a turn", x.state(9), 2);
        C.due("the turn goes on", x.state(3), 2);
        x.tick(300);
        C.due("done", x.state(7), 2);
        x.take();
        x.take();
        Check.request(x, 5, 17);
        x.tick(36);
        x.settings(1, 400, 0);
        Check.request(x, 6, 17);
        x.tick(500);
        C.due("stray of another address", x.state(9), 3);
        x.take();
        C.result(x, "the right one", 0, 0, 1, 4);
        C.due("its number", x.data(2), 1);
    }

    private static void strayWithARequestInTheRow() {
        FieldLine x = line(100);
        x.settings(1, 20, 0);
        Check.request(x, 5, 17);
        x.tick(16 + 14 + 100 + 5);
        C.due("the device sends", x.state(1), 2);
        Check.request(x, 6, 17);
        x.tick(23 + 13);
        C.due("not ended", x.state(9), 0);
        x.tick(1);
        C.due("stray to a master that is free", x.state(9), 1);
        C.due("the request stays", x.state(5), 1);
        C.due("it was not begun", x.state(6), 0);
        x.tick(1);
        C.due("it is begun", x.state(6), 1);
    }

    private static void waitsForTheWire() {
        FieldLine x = line(0);
        x.settings(1, 20, 0);
        Check.request(x, 5, 17);
        x.tick(16 + 14 + 28 + 13);
        C.due("still waits", x.state(3), 2);
        C.due("beyond the timeout", x.state(4), 55);
        x.tick(1);
        C.result(x, "done", 0, 0, 1, 4);
    }

    private static boolean throwsIndex(FieldLine x, int k) {
        try {
            x.data(k);
        } catch (IndexOutOfBoundsException e) {
            return true;
        }
        return false;
    }

    private static void results() {
        FieldLine x = line(0);
        C.due("data throws without a result", throwsIndex(x, 0), true);
        x.put(0, 2, 1, 0x1234);
        Check.request(x, 5, 3, 0, 1, 0, 1);
        Check.request(x, 6, 17);
        x.tick(1000);
        C.due("state(7)", x.state(7), 2);
        int[] want = {0, 0, 0, 1, 4, 5};
        for (int what = 0; what < 6; what++) {
            C.due("result(" + what + ")", x.result(what), want[what]);
        }
        C.due("result(6)", x.result(6), -1);
        C.due("result(-1)", x.result(-1), -1);
        int[] answer = {3, 2, 0x12, 0x34};
        for (int k = 0; k < 4; k++) {
            C.due("data(" + k + ")", x.data(k), answer[k]);
        }
        C.due("data(4) throws", throwsIndex(x, 4), true);
        C.due("data(-1) throws", throwsIndex(x, -1), true);
        C.due("take()", x.take(), true);
        C.due("the second one", x.result(0), 1);
        C.due("its address", x.result(5), 6);
        C.due("take()", x.take(), true);
        C.due("take()", x.take(), false);
        C.due("result(0)", x.result(0), -1);
    }

    private static void lostResults() {
        FieldLine x = line(0);
        x.settings(1, 20, 0);
        for (int i = 0; i < 36; i++) {
            Check.request(x, 0, 17);
            if (i % 12 == 11) {
                x.tick(1000);
            }
        }
        C.due("kept", x.state(7), 32);
        C.due("lost", x.state(8), 4);
        C.due("the row is empty", x.state(5), 0);
        for (int i = 0; i < 32; i++) {
            C.due("number", x.result(0), i);
            x.take();
        }
        C.due("no more", x.result(0), -1);
        Check.request(x, 5, 17);
        x.tick(200);
        C.due("the next one", x.result(0), 36);
        C.due("its bytes", x.result(4), 4);
        C.due("lost stays", x.state(8), 4);
    }

    private static void scanCalls() {
        FieldLine x = line(0);
        C.due("an empty tape", x.scan(50, 5), -1);
        Check.load(x, Check.repeat(1, 254));
        C.due("254 bytes", x.scan(50, 5), -1);
        x.end(1);
        C.due("every 49", x.scan(49, 5), -1);
        C.due("every 30001", x.scan(30001, 5), -1);
        C.due("address -1", x.scan(50, -1), -1);
        C.due("address 248", x.scan(50, 248), -1);
        C.due("the tape stays", x.state(14), 1);
        for (int i = 0; i < 8; i++) {
            Check.load(x, 17);
            C.due("scan " + i, x.scan(i == 0 ? 50 : 30000, i == 0 ? 0 : 247), i);
            C.due("the tape is empty", x.state(14), 0);
        }
        Check.load(x, 17);
        C.due("a ninth", x.scan(50, 5), -1);
        C.due("state(13)", x.state(13), 8);
    }

    private static void scans() {
        FieldLine x = line(0);
        x.tick(7);
        Check.load(x, 17);
        x.scan(60, 5);
        Check.load(x, 11);
        x.scan(60, 6);
        x.tick(60);
        C.due("not yet", x.state(5), 0);
        x.tick(1);
        C.due("both come", x.state(5), 2);
        C.due("the first is sent at once", x.state(1), 1);
        C.due("in order", x.sent(0), 5);
        C.due("its PDU", x.sent(1), 17);
        x.tick(60);
        C.due("the formers are in the row", x.state(5), 2);
        C.due("next number", Check.request(x, 5, 7), 2);
        x.tick(400);
        int[] numbers = {0, 1, 2, 3, 4};
        int[] addresses = {5, 6, 5, 5, 6};
        for (int i = 0; i < 5; i++) {
            C.due("number", x.result(0), numbers[i]);
            C.due("address", x.result(5), addresses[i]);
            x.take();
        }
    }

    private static void scansWithoutRoom() {
        FieldLine x = line(0);
        Check.load(x, 17);
        x.scan(50, 5);
        for (int i = 0; i < 16; i++) {
            Check.request(x, 50, 17);
        }
        x.tick(60);
        C.due("no room", x.state(5), 16);
        x.settings(1, 20, 0);
        x.tick(141);
        C.due("room again, its time is 200", x.state(5), 13);
        C.due("the scan's request", Check.request(x, 50, 17), 17);
    }
}
