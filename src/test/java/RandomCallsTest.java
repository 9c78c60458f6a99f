import java.util.Random;

/** Any calls in any order: no other exception comes, refused ones change nothing, the same calls answer the same. */
public final class RandomCallsTest {
    private static final Check C = new Check("RandomCallsTest");
    private static final int[] EDGES = {Integer.MIN_VALUE, -1, 0, 1, 2, 3, 5, 6, 7, 9, 16, 20, 40, 100, 120, 128, 247, 253,
        255, 256, 262, 270, 340, 400, 1000, 2000, 5000, 30000, 65280, 65535, 65536, Integer.MAX_VALUE};
    private static final int REFUSED = -1;
    private static final int THROWN = -2;

    public static void main(String[] args) {
        for (int seed = 0; seed < 150; seed++) {
            try {
                run(seed);
            } catch (RuntimeException e) {
                C.due("seed " + seed + " threw " + e + " at " + e.getStackTrace()[0], 1, 0);
            }
        }
        C.end();
    }

    private static void run(int seed) {
        Random r = new Random(seed);
        Random again = new Random(seed);
        FieldLine x = new FieldLine();
        FieldLine twin = new FieldLine();
        for (int i = 0; i < 512; i++) {
            long before = seed % 10 == 0 ? picture(x) : 0;
            int got = call(x, r);
            C.due("seed " + seed + " call " + i + " of the twin", call(twin, again), got);
            if (seed % 10 == 0 && got < 0) {
                C.due("seed " + seed + " call " + i + ", refused, changes nothing", picture(x), before);
            }
        }
        C.due("seed " + seed + ", the picture", picture(twin), picture(x));
    }

    private static int number(Random r) {
        int k = r.nextInt(10);
        return k < 6 ? r.nextInt(8) : k < 8 ? EDGES[r.nextInt(EDGES.length)] : r.nextInt(300);
    }

    private static int truth(boolean b) {
        return b ? 1 : REFUSED;
    }

    /** One call of any method; -1 or below if it was refused. */
    private static int call(FieldLine x, Random r) {
        int a = number(r);
        int b = number(r);
        int c = number(r);
        int d = number(r);
        int e = number(r);
        switch (r.nextInt(32)) {
            case 0: return x.device(1 + r.nextInt(10), r.nextInt(30));
            case 1: return x.device(a, b);
            case 2: return truth(x.bank(r.nextInt(3), r.nextInt(4), r.nextInt(3), 5 + r.nextInt(30)));
            case 3: return truth(x.bank(a, b, c, d));
            case 4: return truth(x.put(a, b, c, d));
            case 5: return x.get(a, b, c);
            case 6: return truth(x.limit(a, b, c, d, e));
            case 7: return truth(x.file(a, b, c));
            case 8: return x.record(a, b, c);
            case 9: return truth(x.queue(a, b));
            case 10: return x.push(a, b, c);
            case 11: return truth(x.name(a, b));
            case 12: return truth(x.rule(r.nextInt(3), r.nextInt(7), c, d, e));
            case 13: return truth(x.busy(a, b));
            case 14: return loaded(x, r) ? x.serve(r.nextInt(3)) : REFUSED;
            case 15: return x.serve(a);
            case 16: return x.answer(a);
            case 17: return truth(x.settings(a, 20 + r.nextInt(100), c));
            case 18: return loaded(x, r) ? x.request(r.nextInt(11)) : REFUSED;
            case 19: return x.request(a);
            case 20: return loaded(x, r) ? x.scan(50 + r.nextInt(100), r.nextInt(11)) : REFUSED;
            case 21: return truth(x.harm(r.nextInt(60), 1 + r.nextInt(340)));
            case 22: return truth(x.harm(a, b));
            case 23: return ticks(x, a);
            case 24: return x.tick(1 + r.nextInt(1000));
            case 25: return x.result(a);
            case 26: return bytes(x, a);
            case 27: return truth(x.take());
            case 28: return x.state(a) + x.counter(a, b);
            case 29: return x.event(a, b);
            case 30: return x.feed(a, b, c, d, e);
            default: return r.nextBoolean() ? x.end(a) : x.sent(a) + x.sum();
        }
    }

    /** A PDU of a function that there is comes to the tape; it is never refused. */
    private static boolean loaded(FieldLine x, Random r) {
        int[] functions = {1, 2, 3, 4, 5, 6, 7, 8, 11, 12, 15, 16, 17, 20, 21, 22, 23, 24, 43};
        int[] pdu = new int[1 + r.nextInt(r.nextInt(10) == 0 ? 253 : 14)];
        for (int i = 1; i < pdu.length; i++) {
            pdu[i] = r.nextInt(4) == 0 ? r.nextInt(256) : i % 2 == 1 ? 0 : r.nextInt(5);
        }
        pdu[0] = functions[r.nextInt(functions.length)];
        Check.load(x, pdu);
        return true;
    }

    private static int ticks(FieldLine x, int n) {
        try {
            return x.tick(n);
        } catch (IllegalArgumentException e) {
            C.due("tick(" + n + ") throws", n < 1 || n > 1000, true);
            return THROWN;
        }
    }

    private static int bytes(FieldLine x, int k) {
        try {
            return x.data(k);
        } catch (IndexOutOfBoundsException e) {
            C.due("data(" + k + ") throws", k < 0 || k >= x.result(4), true);
            return THROWN;
        }
    }

    /** All that can be seen of an object, but for what a loaded tape changes. */
    private static long picture(FieldLine x) {
        long p = 7;
        for (int i = 0; i <= 16; i++) {
            p = p * 31 + (i == 14 ? 0 : x.state(i));
            for (int d = 0; d < 6; d++) {
                p = p * 31 + x.counter(d, i);
            }
        }
        for (int d = 0; d < 6; d++) {
            for (int i = 0; i < 64; i++) {
                p = p * 31 + x.event(d, i);
                p = p * 31 + x.get(d, i % 4, i / 4);
                p = p * 31 + x.record(d, i % 8, i / 8);
            }
        }
        for (int i = 0; i < 16; i++) {
            p = p * 31 + x.result(i) + 7L * x.answer(i) + 11L * x.sent(i);
        }
        return p;
    }
}
