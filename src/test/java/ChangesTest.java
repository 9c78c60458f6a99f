import java.util.Map;
import java.util.TreeMap;

/** What each call changes, and that it changes nothing else: of two lines with the same past, one has a call more. */
public final class ChangesTest extends Check {
    private static final int[] TAPE = {8, 0, 0, 9};
    private static final String EMPTY_TAPE = "state 14: 0";
    private static final String EMPTY_SUM = "sum: 65535";
    /** For what the wire does later on, which no test tells in numbers. */
    private static final String LATER = "later wire: *";

    private interface Call {
        void on(FieldLine x);
    }

    /** What is seen of a line, each under a name. */
    private interface Sight {
        void of(FieldLine x, Map<String, String> seen);
    }

    private static final Sight[] SIGHTS = {ChangesTest::told, ChangesTest::places, ChangesTest::stored, ChangesTest::given,
        ChangesTest::later};

    public static void main(String[] args) {
        tapeCalls();
        deviceCalls();
        masterCalls();
        asking();
        servedReads();
        servedWrites();
        servedDiagnoses();
        servedRefusals();
        end("ChangesTest");
    }

    /**
     * Device 0 has a reply that it has not begun and half a frame in its row, device 1 is busy; there are two results,
     * two requests, of which the first is being sent, a scan and two harms.
     */
    private static FieldLine line(int... tape) {
        FieldLine x = new FieldLine();
        x.device(5, 300);
        x.device(6, 0);
        int[][] values = {{1, 0, 1, 0}, {0, 1, 0, 0}, {10, 11, 12, 13}, {20, 21, 22, 23}};
        for (int kind = 0; kind < 4; kind++) {
            x.bank(0, kind, 0, 4);
            for (int at = 0; at < 4; at++) {
                x.put(0, kind, at, values[kind][at]);
            }
        }
        x.bank(1, 2, 0, 4);
        x.limit(0, 1, 2, 5, 100);
        x.file(0, 1, 3);
        x.file(1, 1, 2);
        load(x, 21, 13, 6, 0, 1, 0, 0, 0, 3, 0, 7, 0, 8, 0, 9);
        x.serve(0);
        x.queue(0, 9);
        x.push(0, 9, 77);
        x.push(0, 9, 78);
        name(x, 0, 0, 65, 66);
        name(x, 0, 128, 1);
        x.settings(1, 60, 30);
        request(x, 6, 17);
        x.tick(100);
        request(x, 5, 17);
        x.tick(120);
        x.busy(1, 2);
        request(x, 50, 17);
        request(x, 0, 17);
        load(x, 17);
        x.scan(90, 6);
        x.harm(2, 3);
        x.harm(30, 256);
        x.tick(6);
        load(x, tape);
        return x;
    }

    private static String shown(int v) {
        return v == NONE ? " -" : " " + v;
    }

    private static void told(FieldLine x, Map<String, String> seen) {
        seen.put("sum", shown(x.sum()));
        for (int what = 0; what < 17; what++) {
            seen.put("state " + what, shown(x.state(what)));
            seen.put("counter 0 " + what, shown(x.counter(0, what)));
            seen.put("counter 1 " + what, shown(x.counter(1, what)));
        }
        seen.put("address 2", shown(x.counter(2, 16)));
        StringBuilder result = new StringBuilder();
        for (int what = 0; what < 6; what++) {
            result.append(shown(x.result(what)));
        }
        seen.put("result", result.toString());
        StringBuilder data = new StringBuilder();
        for (int k = 0; k < 5; k++) {
            data.append(dataThrows(x, k) ? " -" : shown(x.data(k)));
        }
        seen.put("data", data.toString());
        StringBuilder[] rows = {new StringBuilder(), new StringBuilder(), new StringBuilder(), new StringBuilder()};
        for (int k = 0; k < 16; k++) {
            rows[0].append(x.answer(k) == NONE ? "" : shown(x.answer(k)));
            rows[1].append(x.sent(k) == NONE ? "" : shown(x.sent(k)));
            rows[2].append(x.event(0, k) == NONE ? "" : shown(x.event(0, k)));
            rows[3].append(x.event(1, k) == NONE ? "" : shown(x.event(1, k)));
        }
        String[] names = {"answer", "sent", "log 0", "log 1"};
        for (int i = 0; i < 4; i++) {
            seen.put(names[i], rows[i].toString());
        }
    }

    private static void places(FieldLine x, Map<String, String> seen) {
        for (int d = 0; d < 2; d++) {
            for (int kind = 0; kind < 4; kind++) {
                StringBuilder bank = new StringBuilder();
                for (int at = 0; at < 6; at++) {
                    bank.append(shown(x.get(d, kind, at)));
                }
                seen.put("bank " + d + " " + kind, bank.toString());
            }
            for (int number = 1; number < 3; number++) {
                StringBuilder file = new StringBuilder();
                for (int k = 0; k < 5; k++) {
                    file.append(shown(x.record(d, number, k)));
                }
                seen.put("file " + d + " " + number, file.toString());
            }
        }
    }

    private static void stored(FieldLine x, Map<String, String> seen) {
        for (int d = 0; d < 2; d++) {
            x.busy(d, 0);
            seen.put("texts " + d, answerFrom(x, d, 3, 43, 14, 3, 0));
            seen.put("queue " + d + " 4", answerFrom(x, d, 1, 24, 0, 4));
            seen.put("queue " + d + " 9", answerFrom(x, d, 1, 24, 0, 9));
        }
    }

    private static String answerFrom(FieldLine x, int d, int k, int... pdu) {
        load(x, pdu);
        int n = x.serve(d);
        StringBuilder b = new StringBuilder();
        for (int i = k; i < n; i++) {
            b.append(shown(x.answer(i)));
        }
        return b.toString();
    }

    /** Which values the registers of device 0 may be given. */
    private static void given(FieldLine x, Map<String, String> seen) {
        x.busy(0, 0);
        int[] values = {4, 5, 100, 101};
        for (int at = 0; at < 5; at++) {
            StringBuilder b = new StringBuilder();
            for (int v : values) {
                load(x, 6, 0, at, 0, v);
                b.append(x.serve(0) == 5 ? " yes" : " no");
            }
            seen.put("given " + at, b.toString());
        }
    }

    private static void later(FieldLine x, Map<String, String> seen) {
        StringBuilder wire = new StringBuilder();
        for (int i = 0; i < 30; i++) {
            wire.append(shown(x.tick(1 + 3 * i)));
            int[] whats = {1, 3, 9, 16};
            for (int what : whats) {
                wire.append(shown(x.state(what)));
            }
        }
        seen.put("later wire", wire.toString());
        seen.put("later gauge", shown(x.get(0, 3, 0)));
    }

    /** Only these things are changed by a call: "name: what it is then", or "name: *" if it is only known to differ. */
    private static void changes(int[] tape, String what, Call call, String... changed) {
        for (Sight sight : SIGHTS) {
            Map<String, String> before = new TreeMap<>();
            Map<String, String> behind = new TreeMap<>();
            sight.of(line(tape), before);
            FieldLine x = line(tape);
            call.on(x);
            sight.of(x, behind);
            for (String name : before.keySet()) {
                String want = before.get(name);
                for (String change : changed) {
                    if (change.startsWith(name + ":")) {
                        want = change.substring(name.length() + 1);
                    }
                }
                boolean right = want.equals(" *") ? !behind.get(name).equals(before.get(name)) : behind.get(name).equals(want);
                due(what + ": " + name + " is" + behind.get(name) + ", due is" + want + ": alike", right, true);
            }
        }
    }

    private static void changes(String what, Call call, String... changed) {
        changes(TAPE, what, call, changed);
    }

    private static void tapeCalls() {
        sentence("2 to 4: (what they change)");
        changes("feed", x -> x.feed(1, 2, 3, 4, 5), "state 14: 24",
                "sum: " + sum(join(TAPE, bytes(0, 0, 0, 1, 0, 0, 0, 2, 0, 0, 0, 3, 0, 0, 0, 4, 0, 0, 0, 5))));
        changes("end", x -> x.end(2), "state 14: 2", "sum: " + sum(8, 0));
        changes("end of all", x -> x.end(4));
        changes("sum", x -> x.sum());
    }

    private static void deviceCalls() {
        sentence("5 to 16: (what they change)");
        changes("device", x -> x.device(9, 7), "state 12: 3", "address 2: 9");
        changes("bank", x -> x.bank(0, 2, 1, 2), "bank 0 2: - 0 0 - - -", "given 0: no no no no", "given 3: no no no no");
        changes("bank of none", x -> x.bank(0, 1, 0, 0), "bank 0 1: - - - - - -");
        changes("bank of the other", x -> x.bank(1, 0, 2, 3), "bank 1 0: - - 0 0 0 -");
        changes("put", x -> x.put(0, 2, 3, 65537), "bank 0 2: 10 11 12 1 - -");
        changes("put of a coil", x -> x.put(0, 0, 1, 3), "bank 0 0: 1 1 1 0 - -");
        changes("put of the other", x -> x.put(1, 2, 0, 9), "bank 1 2: 9 0 0 0 - -");
        changes("limit", x -> x.limit(0, 3, 1, 5, 5), "given 3: no yes no no");
        changes("limit of the other", x -> x.limit(1, 0, 65536, 5, 5));
        changes("file anew", x -> x.file(0, 1, 2), "file 0 1: 0 0 - - -");
        changes("file", x -> x.file(0, 2, 1), "file 0 2: 0 - - - -");
        changes("file of the other", x -> x.file(1, 2, 4), "file 1 2: 0 0 0 0 -");
        changes("queue", x -> x.queue(0, 4), "queue 0 4: 0 2 0 0");
        changes("queue of the other", x -> x.queue(1, 9), "queue 1 9: 0 2 0 0");
        changes("push", x -> x.push(0, 9, 65541), "queue 0 9: 0 8 0 3 0 77 0 78 0 5");
        changes("name anew", x -> x.name(0, 0), EMPTY_TAPE, EMPTY_SUM, "texts 0: 131 0 0 2 0 4 8 0 0 9 128 1 1");
        changes("name", x -> x.name(0, 3), EMPTY_TAPE, EMPTY_SUM, "texts 0: 131 0 0 3 0 2 65 66 3 4 8 0 0 9 128 1 1");
        changes("name of the other", x -> x.name(1, 0), EMPTY_TAPE, EMPTY_SUM, "texts 1: 129 0 0 1 0 4 8 0 0 9");
        changes("rule", x -> x.rule(0, 0, 0, 1, 0), "later gauge: *");
        changes("busy", x -> x.busy(0, 3), "counter 0 11: 3");
        changes("busy no more", x -> x.busy(1, 0), "counter 1 11: 0", LATER);
    }

    private static void masterCalls() {
        sentence("19 to 22, 26: (what they change)");
        changes("settings", x -> x.settings(2, 70, 40), LATER);
        changes("the same settings", x -> x.settings(1, 60, 30));
        changes("request", x -> x.request(7), EMPTY_TAPE, EMPTY_SUM, "state 5: 3", LATER);
        changes("scan", x -> x.scan(50, 7), EMPTY_TAPE, EMPTY_SUM, "state 13: 2", LATER);
        changes("harm", x -> x.harm(1, 300), "state 11: 3", LATER);
        changes("harm in place of one", x -> x.harm(0, 300), LATER);
        changes("take", x -> x.take(), "state 7: 1", "result: 1 2 1 1 0 5", "data: - - - - -");
    }

    private static void asking() {
        sentence("8, 11, 18, 24, 25, 27 to 30: (they change nothing)");
        changes("asking", x -> {
            x.get(0, 2, 1);
            x.record(0, 1, 0);
            x.answer(0);
            x.result(0);
            x.data(0);
            x.event(0, 0);
            x.sent(0);
            for (int what = 0; what < 17; what++) {
                x.state(what);
                x.counter(0, what);
                x.counter(1, what);
            }
        });
    }

    /** Device 0 serves a PDU: the answer, and what is changed beside it. */
    private static void serves(int[] pdu, int[] answer, String... changed) {
        StringBuilder b = new StringBuilder("answer:");
        for (int v : answer) {
            b.append(shown(v));
        }
        String[] all = java.util.Arrays.copyOf(changed, changed.length + 4);
        all[changed.length] = EMPTY_TAPE;
        all[changed.length + 1] = EMPTY_SUM;
        all[changed.length + 2] = "state 15: " + answer.length;
        all[changed.length + 3] = b.toString();
        changes(pdu, java.util.Arrays.toString(pdu), x -> x.serve(0), all);
    }

    private static final String DONE = "counter 0 8: 3";

    private static void servedReads() {
        sentence("17: SERVED (what functions that read change)");
        serves(bytes(1, 0, 0, 0, 4), bytes(1, 1, 5), DONE);
        serves(bytes(2, 0, 0, 0, 4), bytes(2, 1, 2), DONE);
        serves(bytes(3, 0, 0, 0, 2), bytes(3, 4, 0, 10, 0, 11), DONE);
        serves(bytes(4, 0, 0, 0, 1), bytes(4, 2, 0, 20), DONE);
        serves(bytes(7), bytes(7, 5), DONE);
        serves(bytes(11), bytes(11, 0, 0, 0, 2));
        serves(bytes(12), bytes(12, 8, 0, 0, 0, 2, 0, 3, 64, 128));
        serves(bytes(17), bytes(17, 2, 0, 255), DONE);
        serves(bytes(20, 7, 6, 0, 1, 0, 1, 0, 2), bytes(20, 6, 5, 6, 0, 8, 0, 9), DONE);
        serves(bytes(24, 0, 9), bytes(24, 0, 6, 0, 2, 0, 77, 0, 78), DONE);
        serves(bytes(43, 14, 4, 0), bytes(43, 14, 4, 131, 0, 0, 1, 0, 2, 65, 66), DONE);
    }

    private static void servedWrites() {
        sentence("17: SERVED (what functions that write change)");
        int[] coil = {5, 0, 1, 255, 0};
        serves(coil, coil, DONE, "bank 0 0: 1 1 1 0 - -");
        int[] register = {6, 0, 3, 1, 2};
        serves(register, register, DONE, "bank 0 2: 10 11 12 258 - -");
        serves(bytes(15, 0, 2, 0, 2, 1, 2), bytes(15, 0, 2, 0, 2), DONE, "bank 0 0: 1 0 0 1 - -");
        serves(bytes(16, 0, 1, 0, 2, 4, 0, 50, 0, 60), bytes(16, 0, 1, 0, 2), DONE, "bank 0 2: 10 50 60 13 - -");
        int[] file = {21, 9, 6, 0, 1, 0, 2, 0, 1, 1, 1};
        serves(file, file, DONE, "file 0 1: 7 8 257 - -");
        int[] mask = {22, 0, 1, 0, 240, 0, 37};
        serves(mask, mask, DONE, "bank 0 2: 10 5 12 13 - -");
        serves(bytes(23, 0, 0, 0, 2, 0, 1, 0, 1, 2, 0, 99), bytes(23, 4, 0, 10, 0, 99), DONE, "bank 0 2: 10 99 12 13 - -");
    }

    private static void servedDiagnoses() {
        sentence("17: SERVED (what function 8 changes)");
        int[][] same = {{8, 0, 0, 1}, {8, 0, 2, 0, 0}, {8, 0, 20, 0, 0}};
        for (int[] pdu : same) {
            serves(pdu, pdu, DONE);
        }
        int[] restart = {8, 0, 1, 0, 0};
        serves(restart, restart, "counter 0 0: 0", "counter 0 3: 0", "counter 0 8: 0", "counter 0 10: 3", "log 0: 0 64 128");
        int[] emptied = {8, 0, 1, 255, 0};
        serves(emptied, emptied, "counter 0 0: 0", "counter 0 3: 0", "counter 0 8: 0", "counter 0 10: 1", "log 0: 0");
        serves(bytes(8, 0, 4, 0, 0), bytes(), DONE, "counter 0 9: 1", "counter 0 10: 3", "log 0: 4 64 128");
        int[] cleared = {8, 0, 10, 0, 0};
        serves(cleared, cleared, "counter 0 0: 0", "counter 0 3: 0", "counter 0 8: 0");
        serves(bytes(8, 0, 11, 0, 0), bytes(8, 0, 11, 0, 3), DONE);
    }

    private static void servedRefusals() {
        sentence("17: SERVED (a REFUSAL: nothing is changed but what is told)");
        serves(bytes(99), bytes(227, 1));
        serves(bytes(1, 0, 9, 0, 1), bytes(129, 2));
        serves(bytes(6, 0, 1, 0, 1), bytes(134, 3));
        serves(bytes(16, 0, 0, 0, 2, 4, 0, 9, 0, 4), bytes(144, 3));
        serves(bytes(21, 18, 6, 0, 1, 0, 0, 0, 1, 1, 1, 6, 0, 1, 0, 3, 0, 1, 1, 1), bytes(149, 2));
        serves(bytes(8, 0, 1, 0, 1), bytes(136, 3));
        serves(bytes(8, 0, 4, 0, 1), bytes(136, 3));
        changes(bytes(17), "a busy one", x -> x.serve(1), EMPTY_TAPE, EMPTY_SUM, "state 15: 2", "answer: 145 6",
                "counter 1 6: 1", "counter 1 11: 1", LATER);
    }
}
