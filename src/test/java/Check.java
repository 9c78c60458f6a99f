/** What the tests share: answers that are due, and bytes that go to the tape. */
final class Check {
    private final String test;
    private int wrong;

    Check(String test) {
        this.test = test;
    }

    void due(String what, long got, long want) {
        if (got != want) {
            wrong++;
            System.out.println(test + ": " + what + " answered " + got + ", due is " + want);
        }
    }

    void due(String what, boolean got, boolean want) {
        due(what, got ? 1 : 0, want ? 1 : 0);
    }

    /** Ends the test, with exit code 1 if an answer was wrong. */
    void end() {
        System.out.println(wrong == 0 ? test + ": all answers are as due" : test + ": " + wrong + " wrong answers");
        if (wrong != 0) {
            System.exit(1);
        }
    }

    static int[] bytes(int... b) {
        return b;
    }

    static int[] repeat(int b, int times) {
        int[] all = new int[times];
        java.util.Arrays.fill(all, b);
        return all;
    }

    static int[] join(int[]... parts) {
        return java.util.Arrays.stream(parts).flatMapToInt(java.util.Arrays::stream).toArray();
    }

    /** The tape is these bytes then. */
    static void load(FieldLine x, int... b) {
        x.end(0);
        for (int i = 0; i < b.length; i += 20) {
            x.feed(number(b, i), number(b, i + 4), number(b, i + 8), number(b, i + 12), number(b, i + 16));
        }
        x.end(b.length);
    }

    private static int number(int[] b, int from) {
        int v = 0;
        for (int i = from; i < from + 4; i++) {
            v = v << 8 | (i < b.length ? b[i] & 255 : 0);
        }
        return v;
    }

    static int request(FieldLine x, int address, int... pdu) {
        load(x, pdu);
        return x.request(address);
    }

    /** Serves a PDU, of which these bytes must come. */
    void served(FieldLine x, int d, int[] pdu, int... want) {
        load(x, pdu);
        String what = "serve of " + java.util.Arrays.toString(pdu);
        due(what, x.serve(d), want.length);
        due(what + ": state(15)", x.state(15), want.length);
        for (int i = 0; i < want.length; i++) {
            due(what + ": byte " + i, x.answer(i), want[i]);
        }
        due(what + ": byte behind", x.answer(want.length), FieldLine.NONE);
    }

    /** Serves a PDU that must be refused, without counting as done. */
    void refused(FieldLine x, int d, int code, int... pdu) {
        int done = x.counter(d, 8);
        served(x, d, pdu, pdu[0] + 128 & 255, code);
        due("counter 8 of a refusal", x.counter(d, 8), done);
    }

    /** The first result: outcome, code, attempts, bytes. */
    void result(FieldLine x, String what, int outcome, int code, int attempts, int bytes) {
        due(what + ": result(1)", x.result(1), outcome);
        due(what + ": result(2)", x.result(2), code);
        due(what + ": result(3)", x.result(3), attempts);
        due(what + ": result(4)", x.result(4), bytes);
    }

    static int sum(int[] b) {
        int c = 65535;
        for (int v : b) {
            c ^= v;
            for (int i = 0; i < 8; i++) {
                boolean odd = c % 2 == 1;
                c /= 2;
                if (odd) {
                    c ^= 40961;
                }
            }
        }
        return c;
    }

    static int[] frame(int address, int[] pdu) {
        int[] front = join(bytes(address), pdu);
        int sum = sum(front);
        return join(front, bytes(sum % 256, sum / 256));
    }
}
