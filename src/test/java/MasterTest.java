/** Part 5 of the terms, and promises 19, 20 and 24 to 26: settings, requests and results. */
public final class MasterTest extends Check {
    /** Ticks of a frame of a PDU of one byte, until it has ended, and of a reply to function 17. */
    private static final int SENT = 16;
    private static final int ENDED = SENT + 14;
    private static final int REPLY = 28;

    public static void main(String[] args) {
        settings();
        requests();
        waiting();
        framesAtTheMaster();
        attempts();
        results();
        end("MasterTest");
    }

    /** Devices of the addresses 5 and 6, and one of the address 1. */
    private static FieldLine line(int lag) {
        FieldLine x = new FieldLine();
        x.device(5, lag);
        x.device(6, lag);
        x.device(1, lag);
        x.bank(0, 2, 0, 10);
        return x;
    }

    private static void settings() {
        attemptsAtFirst();
        timeoutAtFirst();
        turnAtFirst();
        settingAttempts();
        settingTimeout();
        settingTurn();
    }

    private static void attemptsAtFirst() {
        sentence("Terms 5: ATTEMPTS (3 at first)");
        FieldLine x = line(0);
        request(x, 50, 17);
        x.tick(1000);
        result(x, "nobody answers", 2, 1, 3, 0);
        states(x, "frames", 16, 3);
    }

    private static void timeoutAtFirst() {
        sentence("Terms 5: TIMEOUT (200)");
        FieldLine x = line(0);
        request(x, 50, 17);
        x.tick(SENT + 199);
        states(x, "199", 3, 2, 4, 199);
        x.tick(1);
        states(x, "200", 3, 0, 4, 0, 5, 1);
    }

    private static void turnAtFirst() {
        sentence("Terms 5: TURN (40)");
        FieldLine x = line(0);
        request(x, 0, 17);
        x.tick(SENT + 39);
        states(x, "39", 3, 2, 4, 39, 7, 0);
        x.tick(1);
        states(x, "40", 3, 0, 4, 0, 7, 1);
    }

    private static void settingAttempts() {
        sentence("19: ATTEMPTS 1 to 9");
        FieldLine x = line(0);
        int[] wrong = {0, -1, 10, Integer.MIN_VALUE, Integer.MAX_VALUE};
        for (int attempts : wrong) {
            due("attempts " + attempts, x.settings(attempts, 20, 0), false);
        }
        int[] right = {1, 9};
        for (int attempts : right) {
            due("attempts " + attempts, x.settings(attempts, 20, 0), true);
            request(x, 50, 17);
            x.tick(500);
            result(x, "attempts " + attempts, 2, 1, attempts, 0);
            x.take();
        }
    }

    private static void settingTimeout() {
        sentence("19: TIMEOUT 20 to 5000");
        FieldLine x = line(0);
        int[] wrong = {19, 0, -1, 5001, Integer.MIN_VALUE, Integer.MAX_VALUE};
        for (int timeout : wrong) {
            due("timeout " + timeout, x.settings(1, timeout, 0), false);
        }
        due("timeout 20", x.settings(1, 20, 0), true);
        request(x, 50, 17);
        x.tick(SENT + 19);
        states(x, "19", 3, 2, 7, 0);
        x.tick(1);
        states(x, "20", 3, 0, 7, 1);
        due("timeout 5000", x.settings(1, 5000, 0), true);
        request(x, 50, 17);
        ticks(x, SENT + 4999);
        states(x, "4999", 3, 2, 4, 4999, 7, 1);
        x.tick(1);
        states(x, "5000", 3, 0, 7, 2);
    }

    private static void settingTurn() {
        sentence("19: TURN 0 to 2000");
        FieldLine x = line(0);
        int[] wrong = {-1, 2001, Integer.MIN_VALUE, Integer.MAX_VALUE};
        for (int turn : wrong) {
            due("turn " + turn, x.settings(1, 20, turn), false);
        }
        due("turn 0", x.settings(1, 20, 0), true);
        request(x, 0, 17);
        x.tick(SENT);
        states(x, "sent", 3, 2, 7, 0);
        x.tick(1);
        states(x, "0 is over in the next tick", 3, 0, 7, 1);
        due("turn 2000", x.settings(1, 20, 2000), true);
        x.tick(100);
        request(x, 0, 17);
        ticks(x, SENT + 1999);
        states(x, "1999", 3, 2, 4, 1999, 7, 1);
        x.tick(1);
        states(x, "2000", 3, 0, 7, 2);
    }

    private static void requests() {
        requestAddress();
        requestTape();
        requestsSixteen();
        requestNumbers();
        requestStays();
        requestFrame();
    }

    private static void requestAddress() {
        sentence("20: a request to an address (0 to 247)");
        FieldLine x = line(0);
        load(x, 17);
        int[] wrong = {-1, 248, 256, Integer.MIN_VALUE, Integer.MAX_VALUE};
        for (int address : wrong) {
            due("address " + address, x.request(address), NONE);
        }
        tapeIs(x, "the tape stays", 17);
        states(x, "none came", 5, 0);
        due("address 0", x.request(0), 0);
        due("address 247", request(x, 247, 17), 1);
    }

    private static void requestTape() {
        sentence("20: its PDU the TAPE (1 to 253 bytes; empty then)");
        FieldLine x = line(0);
        due("an empty tape", x.request(5), NONE);
        int[] tooLong = repeat(1, 254);
        due("254 bytes", request(x, 5, tooLong), NONE);
        tapeIs(x, "the tape stays", tooLong);
        due("400 bytes", request(x, 5, repeat(1, 400)), NONE);
        states(x, "none came", 5, 0);
        x.end(253);
        due("253 bytes", x.request(5), 0);
        tapeIs(x, "the tape is empty");
        due("1 byte", request(x, 5, 17), 1);
        tapeIs(x, "the tape is empty");
    }

    private static void requestsSixteen() {
        sentence("20: NONE with 16");
        FieldLine x = line(0);
        for (int i = 0; i < 16; i++) {
            due("request " + i, request(x, 5, 17), i);
        }
        due("a seventeenth", request(x, 5, 17), NONE);
        tapeIs(x, "the tape stays", 17);
        x.tick(1);
        states(x, "the first one is sent, and stays", 5, 16, 3, 1);
        due("a seventeenth", x.request(5), NONE);
        x.tick(ENDED + REPLY + 13);
        states(x, "the first one is done", 5, 15);
        due("then there is room", x.request(5), 16);
        due("for one", request(x, 5, 17), NONE);
    }

    private static void requestNumbers() {
        sentence("Terms 5: numbered from 0 on as they come");
        FieldLine x = line(0);
        x.settings(1, 20, 0);
        // More requests than the rows of requests and results hold together: none finds traces of a former one.
        for (int i = 0; i < 60; i++) {
            due("request " + i, request(x, 0, 17), i);
            x.tick(32);
            due("its result", x.result(0), i);
            due("its attempts", x.result(3), 1);
            due("take", x.take(), true);
        }
        states(x, "none is left", 5, 0, 6, 0, 7, 0);
        x.tick(100);
        states(x, "none is sent again", 3, 0, 16, 60);
    }

    private static void requestStays() {
        sentence("Terms 5: it takes the first request (which stays there), one ATTEMPT more of it");
        FieldLine x = line(0);
        x.settings(3, 20, 0);
        request(x, 50, 17);
        request(x, 5, 17);
        states(x, "not begun", 5, 2, 6, 0);
        for (int attempt = 1; attempt <= 3; attempt++) {
            x.tick(1);
            states(x, "begun", 5, 2, 6, attempt, 16, attempt);
            due("the first one", x.sent(0), 50);
            x.tick(SENT + 19);
        }
        states(x, "failed", 5, 1, 6, 0, 7, 1);
        x.tick(1);
        states(x, "the second one", 5, 1, 6, 1);
        due("the second one", x.sent(0), 5);
    }

    private static void requestFrame() {
        sentence("Terms 5: ADDRESS, PDU, SUM");
        int[] longest = new int[253];
        for (int i = 0; i < 253; i++) {
            longest[i] = i + 3 & 255;
        }
        int[][] pdus = {{0}, {255, 255}, longest};
        for (int[] pdu : pdus) {
            FieldLine x = line(0);
            request(x, 247, pdu);
            x.tick(1);
            int[] frame = frame(247, pdu);
            for (int i = 0; i < frame.length; i++) {
                due("byte " + i, x.sent(i), frame[i]);
            }
            due("none behind", x.sent(frame.length), NONE);
        }
    }

    private static void waiting() {
        waitFromZero();
        turnOrMore();
        turnWhileADeviceSends();
        timeoutOrMore();
        timeoutWhileADeviceSends();
        timeoutWithBytesInTheRow();
        timeoutOfLostBytes();
    }

    private static void waitFromZero() {
        sentence("Terms 5: behind its last byte it WAITS, WAIT 0. In d WAIT is one more");
        FieldLine x = line(0);
        for (int i = 0; i < 2; i++) {
            request(x, 50, 17);
            x.settings(1, 20, 0);
            x.tick(SENT - 1);
            states(x, "sends", 3, 1, 4, 0);
            x.tick(1);
            states(x, "waits", 3, 2, 4, 0);
            x.tick(1);
            states(x, "a tick", 4, 1);
            x.tick(19);
            states(x, "over", 3, 0, 4, 0);
        }
    }

    private static void turnOrMore() {
        sentence("Terms 5: of address 0: at TURN or more it is DONE");
        FieldLine x = line(0);
        x.settings(3, 20, 1);
        request(x, 0, 17);
        x.tick(SENT);
        states(x, "0", 3, 2, 7, 0);
        x.tick(1);
        result(x, "1", 0, 0, 1, 0);
        due("its address", x.result(5), 0);
        x.settings(3, 20, 100);
        request(x, 0, 17);
        x.tick(13 + SENT + 60);
        states(x, "beyond TIMEOUT", 3, 2, 4, 60);
        x.settings(3, 20, 50);
        states(x, "a shorter TURN", 3, 2, 7, 1);
        x.tick(1);
        states(x, "more than TURN", 3, 0, 7, 2);
    }

    private static void turnWhileADeviceSends() {
        sentence("Terms 5: of address 0: at TURN or more it is DONE (while a device sends)");
        FieldLine x = line(50);
        x.settings(1, 20, 30);
        request(x, 5, 17);
        request(x, 0, 17);
        x.tick(81);
        states(x, "a late reply", 1, 2, 3, 2, 4, 29, 7, 1);
        x.tick(1);
        states(x, "done", 1, 2, 3, 0, 7, 2);
    }

    private static void timeoutOrMore() {
        sentence("Terms 5: at TIMEOUT or more, the attempt FAILS with 1");
        FieldLine x = line(0);
        x.settings(1, 1000, 0);
        request(x, 50, 17);
        x.tick(SENT + 60);
        x.settings(1, 50, 0);
        states(x, "a shorter TIMEOUT", 3, 2, 4, 60);
        x.tick(1);
        result(x, "more than TIMEOUT", 2, 1, 1, 0);
        request(x, 50, 17);
        x.tick(SENT + 49);
        x.settings(1, 60, 0);
        x.tick(10);
        states(x, "a longer TIMEOUT", 3, 2, 4, 59);
        x.tick(1);
        states(x, "over", 3, 0, 7, 2);
    }

    private static void timeoutWhileADeviceSends() {
        sentence("Terms 5: at TIMEOUT or more, if nobody sends");
        FieldLine x = line(4);
        x.settings(1, 20, 0);
        request(x, 5, 17);
        x.tick(ENDED + 4);
        states(x, "not begun", 1, 0, 4, 18);
        x.tick(1);
        states(x, "begun", 1, 2, 4, 19);
        x.tick(1);
        states(x, "no byte is heard yet", 1, 2, 3, 2, 4, 20);
        x.tick(REPLY - 2 + 14);
        result(x, "done", 0, 0, 1, 4);
        FieldLine late = line(5);
        late.settings(1, 20, 0);
        request(late, 5, 17);
        late.tick(ENDED + 5);
        states(late, "not begun", 1, 0, 4, 19);
        late.tick(1);
        states(late, "begun in the tick of TIMEOUT", 1, 2, 3, 2, 4, 20);
        FieldLine later = line(6);
        later.settings(1, 20, 0);
        request(later, 5, 17);
        later.tick(ENDED + 6);
        states(later, "too late", 1, 0, 3, 0, 7, 1);
    }

    private static void timeoutWithBytesInTheRow() {
        sentence("Terms 5: at TIMEOUT or more, if its ROW is empty");
        FieldLine x = line(0);
        x.settings(1, 20, 0);
        request(x, 5, 17);
        x.tick(ENDED + REPLY + 13);
        states(x, "nobody sends, the row has bytes", 1, 0, 3, 2, 4, 55);
        x.tick(1);
        result(x, "done", 0, 0, 1, 4);
    }

    private static void timeoutOfLostBytes() {
        sentence("Terms 5: the attempt FAILS with 1 (of an answer whose bytes are all LOST)");
        FieldLine x = line(0);
        x.settings(1, 20, 0);
        request(x, 5, 17);
        for (int i = 4; i < 11; i++) {
            x.harm(i, 256);
        }
        x.tick(ENDED + REPLY);
        states(x, "the last one is done", 1, 0, 3, 2, 4, 42);
        x.tick(1);
        result(x, "nobody sends, the row is empty", 2, 1, 1, 0);
        states(x, "no frame", 9, 0);
    }

    private static void framesAtTheMaster() {
        strayIfItDoesNotWait();
        strayWithARequestInTheRow();
        strayForAddressZero();
        badFrame();
        goodOfAnotherAddress();
        refusalOfSix();
        refusalOfAnother();
        fitting();
        notFitting();
    }

    private static void strayIfItDoesNotWait() {
        sentence("Terms 5: a frame that ends at the master: if it doesn't WAIT, it is STRAY");
        FieldLine x = line(100);
        x.settings(1, 20, 200);
        request(x, 5, 17);
        x.tick(ENDED + 100 + REPLY + 13);
        result(x, "too late", 2, 1, 1, 0);
        states(x, "not ended", 9, 0);
        x.tick(1);
        states(x, "stray", 9, 1, 7, 1);
        x.harm(4, 1);
        request(x, 5, 17);
        x.tick(300);
        states(x, "a bad one, too", 9, 2, 7, 2);
    }

    private static void strayWithARequestInTheRow() {
        sentence("Terms 5: if it doesn't WAIT, it is STRAY (with a request that it would fit)");
        for (int harm = 0; harm < 2; harm++) {
            FieldLine x = line(100);
            x.settings(1, 20, 0);
            request(x, 5, 17);
            if (harm == 1) {
                x.harm(4 + 6, 1);
            }
            x.tick(ENDED + 100 + 5);
            states(x, "the device sends", 1, 2);
            request(x, 5, 17);
            x.tick(REPLY - 5 + 14);
            states(x, "stray", 9, 1, 7, 1, 5, 1, 6, 0);
            x.tick(1);
            states(x, "it is begun", 1, 1, 6, 1);
        }
    }

    private static void strayForAddressZero() {
        sentence("Terms 5: or for address 0, it is STRAY");
        for (int harm = 0; harm < 2; harm++) {
            FieldLine x = line(50);
            x.settings(1, 20, 200);
            request(x, 5, 17);
            request(x, 0, 17);
            if (harm == 1) {
                x.harm(4 + 4 + 2, 1);
            }
            x.tick(80 + REPLY + 14);
            states(x, "stray in a turn", 9, 1, 3, 2, 5, 1, 7, 1);
            x.tick(200);
            states(x, "done", 7, 2);
            x.take();
            result(x, "done", 0, 0, 1, 0);
        }
    }

    private static void badFrame() {
        sentence("Terms 5: not GOOD: the attempt FAILS with 2");
        FieldLine x = line(0);
        x.settings(1, 200, 0);
        request(x, 5, 17);
        x.harm(4 + 6, 1);
        x.tick(ENDED + REPLY + 14);
        result(x, "a bad answer", 2, 2, 1, 0);
        states(x, "not stray", 9, 0, 3, 0);
        FieldLine y = line(0);
        y.settings(1, 200, 0);
        request(y, 5, 17);
        for (int i = 1; i < 7; i++) {
            y.harm(4 + i, 256);
        }
        y.tick(200);
        result(y, "one byte of it", 2, 2, 1, 0);
        FieldLine other = line(0);
        other.settings(1, 200, 0);
        request(other, 5, 17);
        other.harm(4, 5 ^ 6);
        other.tick(ENDED + REPLY + 14);
        result(other, "with another address", 2, 2, 1, 0);
        states(other, "not stray", 9, 0);
        FieldLine z = line(0);
        z.settings(1, 200, 0);
        request(z, 5, 17);
        z.harm(4 + 3, 256 + 24);
        z.tick(ENDED + 12 + 14);
        result(z, "it ends too soon", 2, 2, 1, 0);
        states(z, "while it is sent", 1, 2, 9, 0);
        z.tick(100);
        states(z, "the rest is stray", 9, 1, 7, 1);
    }

    private static void goodOfAnotherAddress() {
        sentence("Terms 5: GOOD of another address: STRAY");
        FieldLine x = line(100);
        x.settings(1, 20, 0);
        request(x, 5, 17);
        x.tick(ENDED + 6);
        x.settings(1, 400, 0);
        request(x, 6, 17);
        x.tick(94 + REPLY + 14);
        states(x, "stray, and it waits on", 9, 1, 3, 2, 4, 120, 5, 1, 6, 1, 7, 1);
        x.tick(300);
        x.take();
        result(x, "the right one", 0, 0, 1, 4);
        due("its number", x.data(2), 1);
        states(x, "one is stray", 9, 1);
        int[] others = {0, 4, 133, 255};
        for (int address : others) {
            FieldLine y = line(0);
            y.settings(1, 200, 0);
            request(y, 5, 17);
            turn(y, 4, frame(5, 17, 2, 0, 255), frame(address, 17, 2, 0, 255));
            y.tick(ENDED + REPLY + 14);
            states(y, "of address " + address, 9, 1, 3, 2, 7, 0);
            y.tick(200);
            result(y, "of address " + address, 2, 1, 1, 0);
        }
    }

    /** The master hears a reply to function 7 as a refusal with a code. */
    private static FieldLine refusedWith(int first, int code) {
        FieldLine x = line(0);
        x.settings(1, 200, 0);
        request(x, 5, 7);
        turn(x, 4, frame(5, 7, 0), frame(5, first, code));
        x.tick(200);
        return x;
    }

    private static void refusalOfSix() {
        sentence("Terms 5: a REFUSAL of 6: the attempt FAILS with 4");
        result(refusedWith(135, 6), "6", 2, 4, 1, 0);
        FieldLine x = line(0);
        x.busy(0, 2);
        request(x, 5, 17);
        x.tick(500);
        result(x, "busy twice", 0, 0, 3, 4);
        x.take();
        x.busy(0, 3);
        request(x, 5, 17);
        x.tick(500);
        result(x, "busy thrice", 2, 4, 3, 0);
    }

    private static void refusalOfAnother() {
        sentence("Terms 5: of another one the request is REFUSED");
        int[] codes = {0, 1, 2, 3, 5, 7, 255};
        for (int code : codes) {
            FieldLine x = refusedWith(135, code);
            result(x, "code " + code, 1, code, 1, 0);
            due("no answer", dataThrows(x, 0), true);
            states(x, "gone", 5, 0, 3, 0);
        }
        result(refusedWith(134, 1), "another function", 2, 3, 1, 0);
        result(refusedWith(136, 1), "another function", 2, 3, 1, 0);
        sentence("Terms 5: the lowest 8 bits of the request's F + 128");
        int[] functions = {127, 128, 200, 255};
        for (int f : functions) {
            FieldLine x = line(0);
            request(x, 5, f);
            x.tick(200);
            result(x, "function " + f, 1, 1, 1, 0);
        }
        sentence("Terms 5: a REFUSAL (two bytes)");
        FieldLine x = line(0);
        x.settings(1, 200, 0);
        request(x, 5, 17);
        turn(x, 4, frame(5, 17, 2, 0, 255), frame(5, 145, 1, 0));
        x.tick(200);
        result(x, "three bytes", 2, 3, 1, 0);
        FieldLine y = line(0);
        y.settings(1, 200, 0);
        request(y, 5, 17);
        turn(y, 4, frame(5, 17, 2, 0, 255), frame(5, 145));
        y.tick(200);
        result(y, "one byte", 2, 3, 1, 0);
    }

    private static void fitting() {
        sentence("Terms 5: one that FITS: DONE");
        FieldLine x = line(0);
        request(x, 1, 17);
        x.tick(ENDED + REPLY + 14);
        result(x, "done", 0, 0, 1, 4);
        due("its address", x.result(5), 1);
        states(x, "gone", 5, 0, 3, 0, 7, 1, 9, 0);
    }

    private static void notFitting() {
        sentence("Terms 5: others: it FAILS with 3");
        FieldLine x = line(0);
        x.settings(2, 200, 0);
        request(x, 5, 17);
        turn(x, 4, frame(5, 17, 2, 0, 255), frame(5, 17, 3, 0, 255));
        x.tick(ENDED + REPLY + 14);
        states(x, "the first attempt", 3, 0, 5, 1, 6, 1, 7, 0, 9, 0);
        x.tick(100);
        result(x, "the second one", 0, 0, 2, 4);
        FieldLine y = refusedWith(8, 0);
        result(y, "another function", 2, 3, 1, 0);
    }

    private static void attempts() {
        asManyAsTheSettingTellsNow();
        whatTheLastAttemptFailedWith();
    }

    private static void asManyAsTheSettingTellsNow() {
        sentence("Terms 5: if the request had as many ATTEMPTS as the setting tells now (or more), it has FAILED");
        FieldLine x = line(0);
        x.settings(5, 20, 0);
        request(x, 50, 17);
        x.tick(2 * 36 + 5);
        states(x, "the third attempt", 6, 3, 7, 0);
        x.settings(2, 20, 0);
        x.tick(31);
        result(x, "more than it tells now", 2, 1, 3, 0);
        x.take();
        x.settings(1, 20, 0);
        request(x, 50, 17);
        x.tick(5);
        x.settings(2, 20, 0);
        x.tick(31);
        states(x, "fewer than it tells now", 5, 1, 6, 1, 7, 0, 3, 0);
        x.tick(36);
        result(x, "as many as it tells now", 2, 1, 2, 0);
    }

    private static void whatTheLastAttemptFailedWith() {
        sentence("24: 2 with what the last attempt failed");
        FieldLine x = line(0);
        x.settings(2, 50, 0);
        request(x, 5, 17);
        x.harm(4 + 2, 1);
        x.harm(4 + 7, 1);
        x.tick(300);
        result(x, "a bad answer, then none", 2, 1, 2, 0);
        FieldLine y = line(0);
        y.settings(2, 50, 0);
        request(y, 5, 17);
        y.harm(0, 1);
        y.harm(4 + 4 + 2, 1);
        y.tick(300);
        result(y, "none, then a bad answer", 2, 2, 2, 0);
    }

    private static void results() {
        resultWhat();
        resultWithoutOne();
        resultOfEachKind();
        dataBytes();
        dataWithoutOne();
        takeFirst();
        takeMany();
        resultsInOrder();
        resultsFull();
    }

    private static void resultWhat() {
        sentence("24: NONE for another what");
        FieldLine x = line(0);
        request(x, 5, 17);
        x.tick(200);
        int[] wrong = {-1, 6, Integer.MIN_VALUE, Integer.MAX_VALUE};
        for (int what : wrong) {
            due("result(" + what + ")", x.result(what), NONE);
        }
        due("result(5)", x.result(5), 5);
        due("result(0)", x.result(0), 0);
    }

    private static void resultWithoutOne() {
        sentence("24: NONE without one");
        FieldLine x = line(0);
        request(x, 5, 17);
        for (int what = 0; what < 6; what++) {
            due("result(" + what + ")", x.result(what), NONE);
        }
        x.tick(200);
        x.take();
        for (int what = 0; what < 6; what++) {
            due("result(" + what + ") behind take", x.result(what), NONE);
        }
    }

    private static void resultOfEachKind() {
        sentence("24: 1 DONE (0), REFUSED (1), FAILED (2), 2 the refusal's code (else 0), 3 attempts, 4 bytes, 5 address");
        FieldLine x = line(0);
        x.put(0, 2, 1, 0x1234);
        x.settings(2, 20, 0);
        request(x, 5, 3, 0, 1, 0, 1);
        request(x, 6, 3, 0, 1, 0, 1);
        request(x, 247, 17);
        request(x, 0, 17);
        x.tick(500);
        int[][] want = {{0, 0, 0, 1, 4, 5}, {1, 1, 2, 1, 0, 6}, {2, 2, 1, 2, 0, 247}, {3, 0, 0, 1, 0, 0}};
        for (int[] one : want) {
            for (int what = 0; what < 6; what++) {
                due("result(" + what + ") of " + one[0], x.result(what), one[what]);
            }
            x.take();
        }
    }

    private static void dataBytes() {
        sentence("25: byte k of the answer of the first RESULT");
        FieldLine x = line(0);
        int[] longest = join(bytes(8, 0, 0), repeat(200, 249), bytes(7));
        request(x, 5, longest);
        ticks(x, 3000);
        due("bytes", x.result(4), 253);
        for (int k = 0; k < 253; k++) {
            due("data(" + k + ")", x.data(k), longest[k]);
        }
        due("data(253) throws", dataThrows(x, 253), true);
    }

    private static void dataWithoutOne() {
        sentence("25: IndexOutOfBoundsException: there is none");
        FieldLine x = line(0);
        x.settings(1, 20, 0);
        due("without a result", dataThrows(x, 0), true);
        request(x, 5, 17);
        x.tick(200);
        int[] wrong = {4, -1, 253, Integer.MIN_VALUE, Integer.MAX_VALUE};
        for (int k : wrong) {
            due("data(" + k + ") throws", dataThrows(x, k), true);
        }
        due("data(3)", x.data(3), 255);
        int[] addresses = {0, 50};
        for (int address : addresses) {
            x.take();
            request(x, address, 17);
            x.tick(200);
            due("data(0) throws of address " + address, dataThrows(x, 0), true);
        }
        x.take();
        request(x, 5, 99);
        x.tick(200);
        due("data(0) throws of a refusal", dataThrows(x, 0), true);
        x.take();
        due("data(0) throws behind take", dataThrows(x, 0), true);
    }

    private static void takeFirst() {
        sentence("26: the first RESULT goes: whether there was one");
        FieldLine x = line(0);
        due("none yet", x.take(), false);
        request(x, 5, 17);
        request(x, 6, 17);
        x.tick(500);
        due("the first", x.take(), true);
        due("the second is the first now", x.result(0), 1);
        due("its bytes", x.data(2), 1);
        states(x, "one", 7, 1);
        due("the second", x.take(), true);
        due("no more", x.take(), false);
        states(x, "none", 7, 0);
    }

    private static void takeMany() {
        sentence("26: the first RESULT goes (of more than are kept at once)");
        FieldLine x = line(0);
        for (int i = 0; i < 40; i++) {
            request(x, 5, 17);
            x.tick(100);
            due("take", x.take(), true);
            due("result(0)", x.result(0), NONE);
            due("data(0) throws", dataThrows(x, 0), true);
        }
        due("no more", x.take(), false);
    }

    private static void resultsInOrder() {
        sentence("Terms 5: a RESULT comes behind the others");
        FieldLine x = line(0);
        int[] addresses = {6, 0, 5, 1};
        for (int address : addresses) {
            request(x, address, 17);
        }
        x.tick(1000);
        for (int i = 0; i < 4; i++) {
            due("number", x.result(0), i);
            due("address", x.result(5), addresses[i]);
            x.take();
        }
    }

    private static void resultsFull() {
        sentence("Terms 5: 32 are kept; more are lost");
        FieldLine x = line(0);
        x.settings(2, 20, 0);
        for (int i = 0; i < 32; i++) {
            request(x, 0, 17);
            x.tick(40);
        }
        states(x, "full", 7, 32, 8, 0);
        request(x, 5, 17);
        request(x, 50, 17);
        request(x, 5, 99);
        x.tick(500);
        states(x, "three are lost", 7, 32, 8, 3, 5, 0, 3, 0);
        due("the first stays", x.result(0), 0);
        x.take();
        request(x, 5, 17);
        request(x, 5, 17);
        x.tick(300);
        states(x, "one is kept, one is lost", 7, 32, 8, 4);
        for (int i = 1; i < 32; i++) {
            due("number", x.result(0), i);
            due("take", x.take(), true);
        }
        due("the last one's number", x.result(0), 35);
        result(x, "the last one", 0, 0, 1, 4);
        due("its byte", x.data(3), 255);
        x.take();
        due("no more", x.take(), false);
        states(x, "lost ones stay lost", 7, 0, 8, 4);
    }
}
