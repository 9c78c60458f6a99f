import java.util.Arrays;

/** What the tests share: sentences of the document, the answers that are due by them, and bytes for the tape. */
abstract class Check {
    static final int NONE = FieldLine.NONE;

    private static String sentence = "";
    private static int sentences;
    private static int wrong;

    /** The words of the document that the checks behind this look at. */
    static void sentence(String words) {
        sentence = words;
        sentences++;
    }

    static void due(String what, long got, long want) {
        if (got != want) {
            wrong++;
            System.out.println("\"" + sentence + "\": " + what + " answered " + got + ", due is " + want);
        }
    }

    static void due(String what, boolean got, boolean want) {
        due(what, got ? 1 : 0, want ? 1 : 0);
    }

    /** Ends a test, with exit code 1 if an answer was wrong. */
    static void end(String test) {
        System.out.println(test + ": " + sentences + " sentences, " + wrong + " wrong answers");
        if (wrong != 0) {
            System.exit(1);
        }
        sentences = 0;
    }

    static int[] bytes(int... b) {
        return b;
    }

    static int[] repeat(int b, int times) {
        int[] all = new int[times];
        Arrays.fill(all, b);
        return all;
    }

    static int[] join(int[]... parts) {
        return Arrays.stream(parts).flatMapToInt(Arrays::stream).toArray();
    }

    /** The tape is these bytes then. */
    static void load(FieldLine x, int... b) {
        x.end(0);
        for (int i = 0; i < b.length; i += 20) {
            x.feed(number(b, i), number(b, i + 4), number(b, i + 8), number(b, i + 12), number(b, i + 16));
        }
        x.end(b.length);
    }

    private static int number(int[] b, int from) {
        int v = 0;
        for (int i = from; i < from + 4; i++) {
            v = v << 8 | (i < b.length ? b[i] & 255 : 0);
        }
        return v;
    }

    static void tapeIs(FieldLine x, String when, int... want) {
        due(when + ": bytes of the tape", x.state(14), want.length);
        due(when + ": sum of the tape", x.sum(), sum(want));
    }

    static int request(FieldLine x, int address, int... pdu) {
        load(x, pdu);
        return x.request(address);
    }

    static boolean name(FieldLine x, int d, int id, int... text) {
        load(x, text);
        return x.name(d, id);
    }

    /** Any number of ticks: how many bytes were done in them. */
    static int ticks(FieldLine x, int n) {
        int done = 0;
        for (int left = n; left > 0; left -= 1000) {
            done += x.tick(Math.min(left, 1000));
        }
        return done;
    }

    static boolean tickThrows(FieldLine x, int n) {
        try {
            x.tick(n);
        } catch (IllegalArgumentException e) {
            return true;
        }
        return false;
    }

    static boolean dataThrows(FieldLine x, int k) {
        try {
            x.data(k);
        } catch (IndexOutOfBoundsException e) {
            return true;
        }
        return false;
    }

    /** Serves a PDU, of which these bytes must come. */
    static void served(FieldLine x, int d, int[] pdu, int... want) {
        load(x, pdu);
        String what = "serve of " + Arrays.toString(pdu);
        due(what, x.serve(d), want.length);
        for (int i = 0; i < want.length; i++) {
            due(what + ": byte " + i, x.answer(i), want[i]);
        }
        due(what + ": byte behind", x.answer(want.length), NONE);
    }

    /** Serves a PDU of which the same must come again. */
    static void echoed(FieldLine x, int d, int... pdu) {
        served(x, d, pdu, pdu);
    }

    /** Serves a PDU that must be refused, without counting as done. */
    static void refused(FieldLine x, int d, int code, int... pdu) {
        int done = x.counter(d, 8);
        served(x, d, pdu, pdu[0] + 128 & 255, code);
        due("counter 8 of a refusal", x.counter(d, 8), done);
    }

    /** Pairs: what, and the answer that is due. */
    static void states(FieldLine x, String when, int... pairs) {
        for (int i = 0; i < pairs.length; i += 2) {
            due(when + ": state(" + pairs[i] + ")", x.state(pairs[i]), pairs[i + 1]);
        }
    }

    /** Pairs: what, and the answer that is due. */
    static void counters(FieldLine x, int d, String when, int... pairs) {
        for (int i = 0; i < pairs.length; i += 2) {
            due(when + ": counter(" + d + ", " + pairs[i] + ")", x.counter(d, pairs[i]), pairs[i + 1]);
        }
    }

    /** All events of a device, the latest first. */
    static void events(FieldLine x, int d, String when, int... want) {
        due(when + ": how many events", x.counter(d, 10), want.length);
        for (int k = 0; k < want.length; k++) {
            due(when + ": event(" + d + ", " + k + ")", x.event(d, k), want[k]);
        }
        due(when + ": no event behind", x.event(d, want.length), NONE);
    }

    /** The first result: outcome, code, attempts, bytes. */
    static void result(FieldLine x, String what, int outcome, int code, int attempts, int bytes) {
        due(what + ": result(1)", x.result(1), outcome);
        due(what + ": result(2)", x.result(2), code);
        due(what + ": result(3)", x.result(3), attempts);
        due(what + ": result(4)", x.result(4), bytes);
    }

    static int sum(int... b) {
        int c = 65535;
        for (int v : b) {
            c ^= v;
            for (int i = 0; i < 8; i++) {
                boolean odd = c % 2 == 1;
                c /= 2;
                if (odd) {
                    c ^= 40961;
                }
            }
        }
        return c;
    }

    static int[] frame(int address, int... pdu) {
        int[] front = join(bytes(address), pdu);
        int sum = sum(front);
        return join(front, bytes(sum % 256, sum / 256));
    }

    /** Harms that make a frame heard as another one of its length, or a shorter one. */
    static void turn(FieldLine x, int firstByte, int[] meant, int[] heard) {
        for (int i = 0; i < meant.length; i++) {
            if (i >= heard.length) {
                x.harm(firstByte + i, 256);
            } else if (meant[i] != heard[i]) {
                x.harm(firstByte + i, meant[i] ^ heard[i]);
            }
        }
    }
}
