import java.util.Random;

/** Any calls in any order: only what the document tells is thrown, and a line without its refused calls goes on alike. */
public final class RandomCallsTest extends Check {
    private static final int[] EDGES = {Integer.MIN_VALUE, -1, 0, 1, 2, 3, 5, 6, 7, 9, 16, 20, 40, 100, 120, 128, 247, 253,
        255, 256, 262, 270, 340, 400, 1000, 2000, 5000, 30000, 65280, 65535, 65536, Integer.MAX_VALUE};
    private static final int[] FUNCTIONS = {1, 2, 3, 4, 5, 6, 7, 8, 11, 12, 15, 16, 17, 20, 21, 22, 23, 24, 43};
    private static final int REFUSED = -1;
    private static final int THROWN = -2;
    private static final int LOADED = 1 << 20;
    /** A line has 512 calls; the dearest step here has 15. */
    private static final int STEPS_END = 512 - 15;

    public static void main(String[] args) {
        sentence("A call that is refused changes nothing (among any calls)");
        for (int seed = 0; seed < 500; seed++) {
            try {
                run(seed);
            } catch (RuntimeException e) {
                due("seed " + seed + " threw " + e + " at " + e.getStackTrace()[0], 1, 0);
            }
        }
        end("RandomCallsTest");
    }

    private static void run(int seed) {
        FieldLine x = new FieldLine();
        FieldLine twin = new FieldLine();
        int calls = 0;
        for (int step = 0; calls < STEPS_END; step++) {
            long stepSeed = seed * 1000L + step;
            int got = call(x, new Random(stepSeed));
            if (got >= 0) {
                due("seed " + seed + ", step " + step, got, call(twin, new Random(stepSeed)));
            }
            calls += got >= LOADED ? got - LOADED : 1;
        }
    }

    private static int number(Random r) {
        int k = r.nextInt(10);
        return k < 6 ? r.nextInt(8) : k < 8 ? EDGES[r.nextInt(EDGES.length)] : r.nextInt(300);
    }

    private static int truth(boolean b) {
        return b ? 1 : REFUSED;
    }

    /** One call of any method; -1 or below if it was refused. */
    private static int call(FieldLine x, Random r) {
        int a = number(r);
        int b = number(r);
        int c = number(r);
        int d = number(r);
        int e = number(r);
        switch (r.nextInt(40)) {
            case 0: return x.device(1 + r.nextInt(10), r.nextInt(30));
            case 1: return x.device(a, b);
            case 2: return truth(x.bank(r.nextInt(3), r.nextInt(4), r.nextInt(3), 5 + r.nextInt(30)));
            case 3: return truth(x.bank(a, b, c, d));
            case 4: return truth(x.put(a, b, c, d));
            case 5: return x.get(a, b, c);
            case 6: return truth(x.limit(a, b, c, d, e));
            case 7: return truth(x.file(a, b, c));
            case 8: return x.record(a, b, c);
            case 9: return truth(x.queue(a, b));
            case 10: return x.push(a, b, c);
            case 11: return truth(x.name(a, b));
            case 12: return truth(x.rule(r.nextInt(3), r.nextInt(7), c, d, e));
            case 13: return truth(x.busy(a, b));
            case 14: return x.serve(a);
            case 15: return x.answer(a);
            case 16: return truth(x.settings(a, 20 + r.nextInt(100), c));
            case 17: return truth(x.settings(a, b, c));
            case 18: return x.request(a);
            case 19: return x.scan(50 + r.nextInt(100), a);
            case 20: return x.scan(a, b);
            case 21: return truth(x.harm(r.nextInt(60), 1 + r.nextInt(340)));
            case 22: return truth(x.harm(a, b));
            case 23: return tickOf(x, a);
            case 24: return x.tick(1 + r.nextInt(1000));
            case 25: return x.result(a);
            case 26: return dataOf(x, a);
            case 27: return truth(x.take());
            case 28: return x.state(a);
            case 29: return x.counter(a, b);
            case 30: return x.event(a, b);
            case 31: return x.feed(a, b, c, d, e);
            case 32: return x.end(a);
            case 33: return x.sent(a);
            case 34: return x.sum();
            case 35: return x.request(r.nextInt(11));
            case 36: return x.serve(r.nextInt(3));
            default: return loaded(x, r);
        }
    }

    /** A PDU of a function that there is comes to the tape: how many calls that took, behind LOADED. */
    private static int loaded(FieldLine x, Random r) {
        int[] pdu = new int[1 + r.nextInt(r.nextInt(10) == 0 ? 253 : 14)];
        for (int i = 1; i < pdu.length; i++) {
            pdu[i] = r.nextInt(4) == 0 ? r.nextInt(256) : i % 2 == 1 ? 0 : r.nextInt(5);
        }
        pdu[0] = FUNCTIONS[r.nextInt(FUNCTIONS.length)];
        load(x, pdu);
        return LOADED + 2 + (pdu.length + 19) / 20;
    }

    private static int tickOf(FieldLine x, int n) {
        try {
            return x.tick(n);
        } catch (IllegalArgumentException e) {
            due("tick(" + n + ") throws", n < 1 || n > 1000, true);
            return THROWN;
        }
    }

    private static int dataOf(FieldLine x, int k) {
        try {
            return x.data(k);
        } catch (IndexOutOfBoundsException e) {
            return THROWN;
        }
    }
}
