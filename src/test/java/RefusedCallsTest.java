import java.util.ArrayList;
import java.util.List;

/** A call that is refused changes nothing: of two lines with the same past, one refuses a call, and both go on alike. */
public final class RefusedCallsTest extends Check {
    private static final int LEAST = Integer.MIN_VALUE;
    private static final int GREATEST = Integer.MAX_VALUE;
    private static final int TAPE = 5;

    /** A call: below 0 if it is refused. */
    private interface Call {
        int on(FieldLine x);
    }

    /** How a line comes about. */
    private interface Past {
        FieldLine line();
    }

    /** What is seen of a line from then on. */
    private interface Sight {
        void of(FieldLine x, List<Integer> seen);
    }

    private static final Sight[] SIGHTS = {RefusedCallsTest::told, RefusedCallsTest::kept, RefusedCallsTest::room,
        RefusedCallsTest::limits, RefusedCallsTest::future};

    public static void main(String[] args) {
        tape();
        devices();
        banks();
        limitCalls();
        files();
        queues();
        texts();
        rules();
        serving();
        master();
        wire();
        asking();
        fullLine();
        end("RefusedCallsTest");
    }

    private static int truth(boolean b) {
        return b ? 1 : -1;
    }

    private static void refuses(Past past, String what, Call... calls) {
        sentence("A call that is refused changes nothing (" + what + ")");
        for (int i = 0; i < calls.length; i++) {
            for (int s = 0; s < SIGHTS.length; s++) {
                FieldLine one = past.line();
                FieldLine other = past.line();
                due("call " + i + " is refused", calls[i].on(one) < 0, true);
                List<Integer> seen = new ArrayList<>();
                List<Integer> want = new ArrayList<>();
                SIGHTS[s].of(one, seen);
                SIGHTS[s].of(other, want);
                due("call " + i + ", sight " + s + ", alike", seen.equals(want), true);
            }
        }
    }

    private static void refuses(String what, Call... calls) {
        refuses(RefusedCallsTest::busyLine, what, calls);
    }

    /** A line with some of everything, in the middle of a frame, the tape being five bytes. */
    private static FieldLine busyLine() {
        FieldLine x = new FieldLine();
        x.device(5, 3);
        x.device(6, 0);
        for (int kind = 0; kind < 4; kind++) {
            x.bank(0, kind, 0, 10);
            x.put(0, kind, 3, 7 + kind);
        }
        x.limit(0, 2, 3, 5, 100);
        x.file(0, 1, 5);
        x.queue(0, 9);
        x.push(0, 9, 77);
        name(x, 0, 0, 65, 66);
        x.rule(0, 0, 3, 2, 0);
        x.settings(2, 60, 30);
        request(x, 5, 3, 0, 0, 0, 4);
        x.tick(200);
        load(x, 17);
        x.serve(0);
        x.busy(0, 1);
        request(x, 50, 17);
        request(x, 0, 6, 0, 4, 0, 9);
        request(x, 5, 17);
        load(x, 17);
        x.scan(90, 6);
        x.harm(2, 3);
        x.harm(30, 256);
        x.tick(6);
        load(x, 43, 14, 3, 0, 9);
        return x;
    }

    /** A line where nothing more has room. */
    private static FieldLine fullerLine() {
        FieldLine x = new FieldLine();
        for (int d = 0; d < 6; d++) {
            x.device(5 + d, d);
        }
        x.bank(0, 2, 0, 10);
        x.bank(0, 3, 0, 10);
        for (int i = 0; i < 8; i++) {
            x.limit(0, i, 1, 0, 10 * i);
            load(x, 17);
            x.scan(300 + i, 6);
        }
        for (int i = 0; i < 12; i++) {
            x.rule(0, 0, i % 10, i, 0);
        }
        for (int i = 0; i < 4; i++) {
            x.file(0, 1 + i, 3);
            x.queue(0, i);
        }
        for (int i = 0; i < 40; i++) {
            x.push(0, 0, i);
        }
        for (int i = 0; i < 10; i++) {
            name(x, 0, i < 7 ? i : 200 + i, i);
        }
        for (int i = 0; i < 16; i++) {
            request(x, i % 2 == 0 ? 5 : 0, 17);
        }
        for (int i = 0; i < 64; i++) {
            x.harm(3 * i, 257 + i % 5);
        }
        load(x, repeat(9, 400));
        return x;
    }

    private static void told(FieldLine x, List<Integer> seen) {
        seen.add(x.sum());
        for (int what = 0; what < 18; what++) {
            seen.add(x.state(what));
            seen.add(x.counter(0, what));
            seen.add(x.counter(1, what));
        }
        for (int k = 0; k < 8; k++) {
            seen.add(x.result(k));
            seen.add(x.answer(k));
            seen.add(x.sent(k));
            seen.add(x.event(0, k));
            seen.add(x.event(1, k));
            seen.add(k < x.result(4) ? x.data(k) : NONE);
        }
    }

    private static void kept(FieldLine x, List<Integer> seen) {
        for (int at = 0; at < 12; at++) {
            for (int kind = 0; kind < 4; kind++) {
                seen.add(x.get(0, kind, at));
            }
        }
        for (int k = 0; k < 6; k++) {
            seen.add(x.record(0, 1, k));
        }
        x.busy(0, 0);
        int[][] asked = {{43, 14, 3, 0}, {24, 0, 9}};
        for (int[] pdu : asked) {
            load(x, pdu);
            seen.add(x.serve(0));
            for (int k = 0; k < 20; k++) {
                seen.add(x.answer(k));
            }
        }
    }

    /** How many more of each thing there may be. */
    private static void room(FieldLine x, List<Integer> seen) {
        seen.add(x.device(101, 0));
        int limits = 0;
        while (limits < 9 && x.limit(0, 0, 1, 0, 1)) {
            limits++;
        }
        seen.add(limits);
        int rules = 0;
        while (rules < 13 && x.rule(0, 0, 0, 0, 0)) {
            rules++;
        }
        seen.add(rules);
        int files = 0;
        while (files < 5 && x.file(0, 100 + files, 1)) {
            files++;
        }
        seen.add(files);
        int queues = 0;
        while (queues < 5 && x.queue(0, 100 + queues)) {
            queues++;
        }
        seen.add(queues);
        seen.add(x.push(0, 9, 1));
        seen.add(x.push(0, 0, 1));
        seen.add(x.end(0));
        int texts = 0;
        while (texts < 11 && x.name(0, 128 + texts)) {
            texts++;
        }
        seen.add(texts);
        int requests = 0;
        while (requests < 17 && request(x, 1, 17) != NONE) {
            requests++;
        }
        seen.add(requests);
        int scans = 0;
        load(x, 17);
        while (scans < 9 && x.scan(50, 1) != NONE) {
            scans++;
            load(x, 17);
        }
        seen.add(scans);
    }

    private static void limits(FieldLine x, List<Integer> seen) {
        x.busy(0, 0);
        int[] values = {0, 4, 5, 100, 101, 255};
        for (int at = 0; at < 10; at += 2) {
            for (int v : values) {
                load(x, 6, 0, at, 0, v);
                seen.add(x.serve(0));
            }
        }
    }

    private static void future(FieldLine x, List<Integer> seen) {
        for (int i = 0; i < 25; i++) {
            seen.add(x.tick(3 + 11 * i));
            seen.add(x.state(1));
            seen.add(x.state(3));
            seen.add(x.state(7));
            seen.add(x.result(2));
            seen.add(x.counter(0, 1));
            seen.add(x.get(0, 3, 3));
            x.take();
        }
    }

    private static void tape() {
        refuses("end", x -> x.end(-1), x -> x.end(LEAST), x -> x.end(TAPE + 1), x -> x.end(GREATEST));
    }

    private static void devices() {
        refuses("device", x -> x.device(0, 0), x -> x.device(248, 0), x -> x.device(5, 0), x -> x.device(6, 9),
                x -> x.device(9, -1), x -> x.device(9, 2001));
        refuses("busy", x -> truth(x.busy(2, 1)), x -> truth(x.busy(-1, 1)), x -> truth(x.busy(0, -1)),
                x -> truth(x.busy(0, 10)));
    }

    private static void banks() {
        refuses("bank", x -> truth(x.bank(2, 0, 0, 5)), x -> truth(x.bank(-1, 0, 0, 5)), x -> truth(x.bank(0, 4, 0, 5)),
                x -> truth(x.bank(0, -1, 0, 5)), x -> truth(x.bank(0, 2, -1, 5)), x -> truth(x.bank(0, 2, 65536, 0)),
                x -> truth(x.bank(0, 2, 0, -1)), x -> truth(x.bank(0, 2, 0, 401)), x -> truth(x.bank(0, 3, 65535, 2)));
        refuses("put", x -> truth(x.put(0, 2, 10, 9)), x -> truth(x.put(0, 2, -1, 9)), x -> truth(x.put(1, 2, 0, 9)),
                x -> truth(x.put(2, 2, 0, 9)), x -> truth(x.put(-1, 2, 0, 9)), x -> truth(x.put(0, 4, 0, 9)),
                x -> truth(x.put(0, -1, 0, 9)), x -> truth(x.put(0, 0, 10, 1)), x -> truth(x.put(0, 1, GREATEST, 1)));
    }

    private static void limitCalls() {
        refuses("limit", x -> truth(x.limit(2, 0, 10, 0, 1)), x -> truth(x.limit(-1, 0, 10, 0, 1)),
                x -> truth(x.limit(0, -1, 10, 0, 1)), x -> truth(x.limit(0, 65536, 1, 0, 1)),
                x -> truth(x.limit(0, 0, 0, 0, 1)), x -> truth(x.limit(0, 0, 65537, 0, 1)),
                x -> truth(x.limit(0, 1, 65536, 0, 1)), x -> truth(x.limit(0, 0, 10, -1, 1)),
                x -> truth(x.limit(0, 0, 10, 0, 65536)), x -> truth(x.limit(0, 0, 10, 2, 1)),
                x -> truth(x.limit(0, 0, 10, 65536, 65536)));
    }

    private static void files() {
        refuses("file", x -> truth(x.file(2, 1, 1)), x -> truth(x.file(-1, 1, 1)), x -> truth(x.file(0, 0, 1)),
                x -> truth(x.file(0, 65536, 1)), x -> truth(x.file(0, 1, 0)), x -> truth(x.file(0, 1, 121)),
                x -> truth(x.file(0, 1, -1)));
    }

    private static void queues() {
        refuses("queue", x -> truth(x.queue(2, 1)), x -> truth(x.queue(-1, 1)), x -> truth(x.queue(0, -1)),
                x -> truth(x.queue(0, 65536)), x -> truth(x.queue(0, 9)));
        refuses("push", x -> x.push(2, 9, 1), x -> x.push(-1, 9, 1), x -> x.push(0, 8, 1), x -> x.push(1, 9, 1));
    }

    private static void texts() {
        refuses("name", x -> truth(x.name(2, 0)), x -> truth(x.name(-1, 0)), x -> truth(x.name(0, -1)),
                x -> truth(x.name(0, 7)), x -> truth(x.name(0, 127)), x -> truth(x.name(0, 256)));
        refuses(() -> withTape(41), "name of 41 bytes", x -> truth(x.name(0, 0)), x -> truth(x.name(0, 1)));
    }

    private static void rules() {
        refuses("rule", x -> truth(x.rule(2, 0, 3, 1, 0)), x -> truth(x.rule(-1, 0, 3, 1, 0)),
                x -> truth(x.rule(0, -1, 3, 1, 0)), x -> truth(x.rule(0, 7, 3, 1, 0)), x -> truth(x.rule(0, 0, -1, 1, 0)),
                x -> truth(x.rule(0, 0, 65536, 1, 0)), x -> truth(x.rule(0, 0, 3, -1, 0)),
                x -> truth(x.rule(0, 0, 3, 65536, 0)), x -> truth(x.rule(0, 2, 3, 3, -1)),
                x -> truth(x.rule(0, 2, 3, 3, 65536)));
    }

    private static FieldLine withTape(int bytes) {
        FieldLine x = busyLine();
        load(x, repeat(17, bytes));
        return x;
    }

    private static void serving() {
        refuses("serve", x -> x.serve(2), x -> x.serve(-1));
        refuses(() -> withTape(0), "serve of no bytes", x -> x.serve(0));
        refuses(() -> withTape(254), "serve of 254 bytes", x -> x.serve(0), x -> x.serve(1));
    }

    private static void master() {
        refuses("settings", x -> truth(x.settings(0, 100, 50)), x -> truth(x.settings(10, 100, 50)),
                x -> truth(x.settings(5, 19, 50)), x -> truth(x.settings(5, 5001, 50)), x -> truth(x.settings(5, 100, -1)),
                x -> truth(x.settings(5, 100, 2001)));
        refuses("request", x -> x.request(-1), x -> x.request(248));
        refuses("scan", x -> x.scan(49, 5), x -> x.scan(30001, 5), x -> x.scan(100, -1), x -> x.scan(100, 248));
        refuses(() -> withTape(0), "request and scan of no bytes", x -> x.request(5), x -> x.scan(100, 5));
        refuses(() -> withTape(254), "request and scan of 254 bytes", x -> x.request(5), x -> x.scan(100, 5));
        refuses(FieldLine::new, "take without a RESULT", x -> truth(x.take()));
    }

    private static void wire() {
        refuses("harm", x -> truth(x.harm(-1, 256)), x -> truth(x.harm(2001, 256)), x -> truth(x.harm(0, 0)),
                x -> truth(x.harm(0, 341)), x -> truth(x.harm(0, -1)));
        refuses("tick that throws", x -> truth(!tickThrows(x, 0)), x -> truth(!tickThrows(x, 1001)),
                x -> truth(!tickThrows(x, -1)));
        refuses("data that throws", x -> truth(!dataThrows(x, -1)), x -> truth(!dataThrows(x, 10)),
                x -> truth(!dataThrows(x, GREATEST)));
    }

    private static void asking() {
        refuses("NONE of what is asked for", x -> x.get(0, 2, 10), x -> x.get(2, 2, 0), x -> x.record(0, 1, 5),
                x -> x.record(0, 2, 0), x -> x.answer(-1), x -> x.answer(4), x -> x.result(6), x -> x.result(-1),
                x -> x.state(17), x -> x.state(-1), x -> x.counter(0, 17), x -> x.counter(2, 0), x -> x.event(0, 64),
                x -> x.event(2, 0), x -> x.sent(-1), x -> x.sent(256));
    }

    private static void fullLine() {
        refuses(RefusedCallsTest::fullerLine, "without room", x -> x.feed(1, 1, 1, 1, 1), x -> x.device(100, 0),
                x -> truth(x.limit(0, 0, 10, 0, 1)), x -> truth(x.file(0, 9, 1)), x -> truth(x.queue(0, 9)),
                x -> x.push(0, 0, 1), x -> truth(x.rule(0, 0, 3, 1, 0)), x -> truth(x.harm(1, 256)), x -> x.serve(0),
                x -> x.request(5), x -> x.scan(100, 5));
        refuses(() -> cut(1), "without room, with a tape of one byte", x -> truth(x.name(0, 250)), x -> x.request(5),
                x -> x.scan(100, 5));
    }

    private static FieldLine cut(int n) {
        FieldLine x = fullerLine();
        x.end(n);
        return x;
    }
}
