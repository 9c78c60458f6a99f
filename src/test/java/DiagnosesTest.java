/** What part 3 of the terms tells of functions 8, 11, 12 and 17, and of counters and events. */
public final class DiagnosesTest extends Check {
    private static final int[] ZERO_KINDS = {2, 4, 10, 11, 12, 13, 14, 15, 16, 17, 18, 20};

    public static void main(String[] args) {
        kindTooShort();
        echo();
        restartKeepsTheLog();
        restartEmptiesTheLog();
        restartOfADeafOne();
        restartWhole();
        restartValues();
        silence();
        counterKinds();
        countersOfTwoBytes();
        clearedCounters();
        clearedOverruns();
        zeroKindsWhole();
        zeroKindsValues();
        otherKinds();
        eventCounter();
        eventsLatestFirst();
        fullLog();
        whoItIs();
        countersGoRound();
        end("DiagnosesTest");
    }

    /** A device of two that had three messages, a busy refusal, another refusal and a message without a reply. */
    private static FieldLine busyLine() {
        FieldLine x = new FieldLine();
        x.device(5, 0);
        x.device(6, 0);
        x.busy(0, 1);
        request(x, 5, 17);
        x.tick(400);
        request(x, 5, 99);
        x.tick(400);
        request(x, 0, 99);
        x.tick(400);
        return x;
    }

    /** A device whose counters differ from one another, but for those that are 0. */
    private static FieldLine manyCounted() {
        FieldLine x = busyLine();
        x.settings(1, 20, 0);
        request(x, 6, 17);
        x.tick(100);
        for (int i = 0; i < 3; i++) {
            request(x, 50, 17);
            x.harm(0, 1);
            x.tick(100);
        }
        for (int i = 0; i < 4; i++) {
            request(x, 0, 99);
            x.tick(100);
        }
        counters(x, 0, "all of them", 0, 10, 1, 3, 2, 2, 3, 8, 4, 5, 5, 0, 6, 1, 7, 0, 8, 1);
        return x;
    }

    private static FieldLine line() {
        FieldLine x = new FieldLine();
        x.device(5, 0);
        return x;
    }

    private static void kindTooShort() {
        sentence("Terms 3: 8: kind (3: fewer than 2 bytes behind F)");
        FieldLine x = line();
        refused(x, 0, 3, 8);
        refused(x, 0, 3, 8, 0);
        refused(x, 0, 3, 8, 9);
        echoed(x, 0, 8, 0, 0);
    }

    private static void echo() {
        sentence("Terms 3: 8: 0: any bytes: the same again");
        FieldLine x = line();
        echoed(x, 0, 8, 0, 0);
        echoed(x, 0, 8, 0, 0, 9);
        echoed(x, 0, 8, 0, 0, 9, 8, 7);
        echoed(x, 0, join(bytes(8, 0, 0), repeat(255, 250)));
    }

    private static void restartKeepsTheLog() {
        sentence("Terms 3: 8: 1: counters 0 to 8 are 0; EVENT 0; the same again");
        FieldLine x = busyLine();
        echoed(x, 0, 8, 0, 1, 0, 0);
        counters(x, 0, "restart", 0, 0, 1, 0, 2, 0, 3, 0, 4, 0, 5, 0, 6, 0, 7, 0, 8, 0);
        events(x, 0, "restart", 0, 192, 65, 128, 64, 128, 68, 128);
        counters(x, 1, "the other device", 0, 7);
    }

    private static void restartEmptiesTheLog() {
        sentence("Terms 3: 8: 1: of 65280 the LOG is empty; EVENT 0 (behind that)");
        FieldLine x = busyLine();
        echoed(x, 0, 8, 0, 1, 255, 0);
        counters(x, 0, "restart", 0, 0, 1, 0, 2, 0, 3, 0, 4, 0, 5, 0, 6, 0, 7, 0, 8, 0);
        events(x, 0, "restart", 0);
        echoed(x, 0, 8, 0, 1, 255, 0);
        events(x, 0, "again", 0);
    }

    private static void restartOfADeafOne() {
        sentence("Terms 3: 8: 1: it is not DEAF");
        int[] values = {0, 255};
        for (int v : values) {
            FieldLine x = line();
            load(x, 8, 0, 4, 0, 0);
            x.serve(0);
            counters(x, 0, "deaf", 9, 1);
            x.busy(0, 1);
            refused(x, 0, 6, 8, 0, 1, v, 0);
            counters(x, 0, "a busy one stays deaf", 9, 1, 6, 1, 8, 1);
            echoed(x, 0, 8, 0, 1, v, 0);
            counters(x, 0, "restart", 9, 0, 6, 0, 8, 0);
        }
    }

    private static void restartWhole() {
        sentence("Terms 3: 8: 1: a value (L)");
        FieldLine x = line();
        refused(x, 0, 3, 8, 0, 1);
        refused(x, 0, 3, 8, 0, 1, 0);
        refused(x, 0, 3, 8, 0, 1, 0, 0, 0);
        refused(x, 0, 3, 8, 0, 1, 255, 0, 0);
        events(x, 0, "none comes");
    }

    private static void restartValues() {
        sentence("Terms 3: 8: 1: 3: neither 0 nor 65280");
        FieldLine x = line();
        echoed(x, 0, 8, 0, 0);
        int[][] wrong = {{0, 1}, {255, 1}, {254, 255}, {255, 255}, {1, 0}};
        for (int[] v : wrong) {
            refused(x, 0, 3, 8, 0, 1, v[0], v[1]);
        }
        events(x, 0, "none comes");
        counters(x, 0, "none is cleared", 8, 1);
    }

    private static void silence() {
        sentence("Terms 3: 8: 4: 0: DEAF; EVENT 4; nothing comes");
        FieldLine x = line();
        served(x, 0, bytes(8, 0, 4, 0, 0));
        counters(x, 0, "deaf", 9, 1, 8, 1);
        events(x, 0, "deaf", 4);
        served(x, 0, bytes(8, 0, 4, 0, 0));
        counters(x, 0, "still deaf", 9, 1, 8, 2);
        events(x, 0, "twice", 4, 4);
    }

    private static void counterKinds() {
        sentence("Terms 3: 8: 11 to 18: 8, kind, counters 0 to 7; 2: as 11 to 18, value 0");
        FieldLine x = manyCounted();
        int[] want = {10, 3, 2, 8, 5, 0, 1, 0};
        for (int k = 0; k < 8; k++) {
            served(x, 0, bytes(8, 0, 11 + k, 0, 0), 8, 0, 11 + k, 0, want[k]);
            counters(x, 0, "of " + k, k, want[k]);
        }
        echoed(x, 0, 8, 0, 2, 0, 0);
        load(x, 8, 0, 10, 0, 0);
        x.serve(0);
        served(x, 0, bytes(8, 0, 11, 0, 0), 8, 0, 11, 0, 0);
    }

    private static void countersOfTwoBytes() {
        sentence("Terms 3: counters: two bytes each");
        FieldLine x = line();
        x.settings(1, 200, 0);
        int[][] pdus = {{5, 99}, {5, 8, 0, 0}, {5, 17}, {0, 99}};
        for (int[] pdu : pdus) {
            load(x, java.util.Arrays.copyOfRange(pdu, 1, pdu.length));
            x.scan(260, pdu[0]);
        }
        for (int i = 0; i < 80; i++) {
            x.busy(0, 5);
            x.tick(1000);
        }
        x.busy(0, 0);
        load(x, 12);
        x.serve(0);
        due("counter 8 in 12", x.answer(4) * 256 + x.answer(5), x.counter(0, 8));
        due("counter 0 in 12", x.answer(6) * 256 + x.answer(7), x.counter(0, 0));
        due("counter 8 has two bytes", x.counter(0, 8) > 256, true);
        int[] counted = {0, 2, 3, 4, 6};
        for (int k : counted) {
            int want = x.counter(0, k);
            due("counter " + k + " has two bytes", want > 256 && want % 256 != want / 256, true);
            served(x, 0, bytes(8, 0, 11 + k, 0, 0), 8, 0, 11 + k, want / 256, want % 256);
        }
    }

    private static void clearedCounters() {
        sentence("Terms 3: 8: 10: counters 0 to 8 are 0; the same again");
        FieldLine x = busyLine();
        echoed(x, 0, 8, 0, 10, 0, 0);
        counters(x, 0, "cleared", 0, 0, 1, 0, 2, 0, 3, 0, 4, 0, 5, 0, 6, 0, 7, 0, 8, 0);
        events(x, 0, "the log stays", 192, 65, 128, 64, 128, 68, 128);
        load(x, 8, 0, 4, 0, 0);
        x.serve(0);
        echoed(x, 0, 8, 0, 10, 0, 0);
        counters(x, 0, "it stays deaf", 9, 1);
    }

    private static void clearedOverruns() {
        sentence("Terms 3: 8: 20: counter 7 is 0; the same again");
        FieldLine x = busyLine();
        echoed(x, 0, 8, 0, 20, 0, 0);
        counters(x, 0, "the others stay", 0, 4, 1, 0, 2, 2, 3, 4, 4, 1, 6, 1, 7, 0, 8, 2);
    }

    private static void zeroKindsWhole() {
        sentence("Terms 3: 8: 2, 4, 10, 11 to 18, 20: 0 (L)");
        FieldLine x = line();
        for (int kind : ZERO_KINDS) {
            refused(x, 0, 3, 8, 0, kind);
            refused(x, 0, 3, 8, 0, kind, 0);
            refused(x, 0, 3, 8, 0, kind, 0, 0, 0);
        }
        counters(x, 0, "not deaf", 9, 0);
    }

    private static void zeroKindsValues() {
        sentence("Terms 3: 8: 2, 4, 10, 11 to 18, 20: 0 (3)");
        FieldLine x = line();
        for (int kind : ZERO_KINDS) {
            refused(x, 0, 3, 8, 0, kind, 0, 1);
            refused(x, 0, 3, 8, 0, kind, 255, 0);
        }
        counters(x, 0, "not deaf", 9, 0);
    }

    private static void otherKinds() {
        sentence("Terms 3: 8: 1: another kind");
        FieldLine x = line();
        int[] kinds = {3, 5, 6, 7, 8, 9, 19, 21, 22, 255};
        for (int kind : kinds) {
            refused(x, 0, 1, 8, 0, kind, 0, 0);
            refused(x, 0, 1, 8, 0, kind, 0, 1);
            refused(x, 0, 1, 8, 0, kind);
        }
        for (int low = 0; low < 21; low++) {
            refused(x, 0, 1, 8, 1, low, 0, 0);
        }
    }

    private static void eventCounter() {
        sentence("Terms 3: 11: (L) 11, 0, 0, counter 8");
        FieldLine x = line();
        served(x, 0, bytes(11), 11, 0, 0, 0, 0);
        echoed(x, 0, 8, 0, 0);
        served(x, 0, bytes(11), 11, 0, 0, 0, 1);
        served(x, 0, bytes(11), 11, 0, 0, 0, 1);
        refused(x, 0, 3, 11, 0);
    }

    private static void eventsLatestFirst() {
        sentence("Terms 3: 12: (L) 12, 6 and how many EVENTS, 0, 0, counter 8, counter 0, EVENTS, the latest first");
        FieldLine x = line();
        served(x, 0, bytes(12), 12, 6, 0, 0, 0, 0, 0, 0);
        FieldLine y = busyLine();
        served(y, 0, bytes(12), 12, 13, 0, 0, 0, 1, 0, 4, 192, 65, 128, 64, 128, 68, 128);
        counters(y, 0, "not counted", 8, 1);
        refused(y, 0, 3, 12, 0);
        FieldLine z = manyCounted();
        served(z, 0, bytes(12), 12, 20, 0, 0, 0, 1, 0, 10, 192, 192, 192, 192, 130, 130, 130, 192, 65, 128, 64, 128, 68, 128);
        served(z, 0, bytes(11), 11, 0, 0, 0, 1);
    }

    /** The k-th event of a run without a period that a shift could hide. */
    private static int eventOf(int k) {
        return k * k % 7 < 3 ? 4 : 0;
    }

    private static void fullLog() {
        sentence("Terms 2: a LOG of the latest 64 EVENTS");
        FieldLine x = line();
        for (int k = 0; k < 66; k++) {
            load(x, 8, 0, eventOf(k) == 4 ? 4 : 1, 0, 0);
            x.serve(0);
            counters(x, 0, "events", 10, Math.min(k + 1, 64));
            due("the latest", x.event(0, 0), eventOf(k));
        }
        for (int k = 0; k < 64; k++) {
            due("event " + k, x.event(0, k), eventOf(65 - k));
        }
        due("none older", x.event(0, 64), NONE);
        load(x, 12);
        due("all are told", x.serve(0), 72);
        due("how many bytes", x.answer(1), 70);
        due("the oldest", x.answer(71), eventOf(2));
    }

    private static void whoItIs() {
        sentence("Terms 3: 17: (L) 17, 2, the device's number, 255");
        FieldLine x = new FieldLine();
        for (int d = 0; d < 6; d++) {
            x.device(10 + d, 0);
            served(x, d, bytes(17), 17, 2, d, 255);
        }
        refused(x, 5, 3, 17, 0);
    }

    private static void countersGoRound() {
        sentence("Terms 2: COUNTERS (16 bits, they go round)");
        FieldLine x = line();
        // No 512 calls bring a counter that far: this one run goes beyond what the document promises.
        for (int i = 0; i < 65535; i++) {
            load(x, 8, 0, 0);
            x.serve(0);
        }
        counters(x, 0, "65535", 8, 65535);
        served(x, 0, bytes(11), 11, 0, 0, 255, 255);
        echoed(x, 0, 8, 0, 0);
        counters(x, 0, "round", 8, 0);
        served(x, 0, bytes(11), 11, 0, 0, 0, 0);
        echoed(x, 0, 8, 0, 0);
        counters(x, 0, "and on", 8, 1);
    }
}
