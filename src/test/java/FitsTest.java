/** Which answers fit a request: harms turn one request or answer into another. */
public final class FitsTest {
    private static final Check C = new Check("FitsTest");

    public static void main(String[] args) {
        sameAgain();
        bitsAndWords();
        fixedLengths();
        counted();
        files();
        queues();
        texts();
        wrongRequests();
        refusals();
        C.end();
    }

    private static int[] b(int... bytes) {
        return bytes;
    }

    private static FieldLine line() {
        FieldLine x = new FieldLine();
        x.device(5, 0);
        for (int kind = 0; kind < 4; kind++) {
            x.bank(0, kind, 0, 40);
        }
        x.file(0, 1, 10);
        x.queue(0, 9);
        x.push(0, 9, 7);
        Check.load(x, 65, 66);
        x.name(0, 0);
        x.settings(1, 2000, 40);
        return x;
    }

    /** Harms that make a frame heard as another one of its length, or one shorter. */
    private static void turn(FieldLine x, int firstByte, int[] meant, int[] heard) {
        for (int i = 0; i < meant.length; i++) {
            if (i >= heard.length) {
                x.harm(firstByte + i, 256);
            } else if (meant[i] != heard[i]) {
                x.harm(firstByte + i, meant[i] ^ heard[i]);
            }
        }
    }

    /** The master asks, the device hears asked, and answers told, which the master hears as answer. */
    private static void exchange(boolean fits, int[] request, int[] asked, int[] told, int[] answer) {
        FieldLine x = line();
        Check.request(x, 5, request);
        turn(x, 0, Check.frame(5, request), Check.frame(5, asked));
        turn(x, request.length + 3, Check.frame(5, told), Check.frame(5, answer));
        x.tick(1000);
        String what = java.util.Arrays.toString(request) + " and " + java.util.Arrays.toString(answer);
        for (int i = 0; i < told.length; i++) {
            C.due(what + ": told as this test thinks, byte " + i, x.sent(1 + i), told[i]);
        }
        C.result(x, what, fits ? 0 : 2, fits ? 0 : 3, 1, fits ? answer.length : 0);
    }

    private static void heard(boolean fits, int[] request, int[] told, int[] answer) {
        exchange(fits, request, request, told, answer);
    }

    private static void sameAgain() {
        int[][] requests = {{5, 0, 1, 255, 0}, {6, 0, 1, 0, 7}, {22, 0, 1, 0, 7, 0, 8}, {8, 0, 0, 3}, {8, 0, 0},
            {8, 0, 1, 255, 0}, {8, 0, 10, 0, 0}, {8, 0, 20, 0, 0}, {21, 9, 6, 0, 1, 0, 0, 0, 1, 3, 4}};
        for (int[] q : requests) {
            heard(true, q, q, q);
            int[] other = q.clone();
            other[q.length - 1] ^= 1;
            heard(false, q, q, other);
            int[] function = q.clone();
            function[0] ^= 64;
            heard(false, q, q, function);
            heard(false, q, q, java.util.Arrays.copyOf(q, q.length - 1));
        }
        int[] coils = {15, 0, 1, 0, 3, 1, 5};
        int[] registers = {16, 0, 1, 0, 1, 2, 0, 5};
        heard(true, coils, b(15, 0, 1, 0, 3), b(15, 0, 1, 0, 3));
        heard(false, coils, b(15, 0, 1, 0, 3), b(15, 0, 1, 0, 2));
        heard(false, coils, b(15, 0, 1, 0, 3), b(15, 0, 1, 0));
        heard(true, registers, b(16, 0, 1, 0, 1), b(16, 0, 1, 0, 1));
        heard(false, registers, b(16, 0, 1, 0, 1), b(16, 0, 2, 0, 1));
    }

    private static void bitsAndWords() {
        for (int f = 1; f <= 2; f++) {
            heard(true, b(f, 0, 0, 0, 9), b(f, 2, 0, 0), b(f, 2, 255, 255));
            heard(false, b(f, 0, 0, 0, 9), b(f, 2, 0, 0), b(f, 3, 0, 0));
            heard(false, b(f, 0, 0, 0, 9), b(f, 2, 0, 0), b(f, 2, 0));
            exchange(false, b(f, 0, 0, 0, 8), b(f, 0, 0, 0, 9), b(f, 2, 0, 0), b(f, 2, 0, 0));
        }
        for (int f = 3; f <= 4; f++) {
            heard(true, b(f, 0, 0, 0, 1), b(f, 2, 0, 0), b(f, 2, 255, 255));
            heard(false, b(f, 0, 0, 0, 1), b(f, 2, 0, 0), b(f, 4, 0, 0));
            heard(false, b(f, 0, 0, 0, 1), b(f, 2, 0, 0), b(f, 1, 0));
            exchange(false, b(f, 0, 0, 0, 2), b(f, 0, 0, 0, 1), b(f, 2, 0, 0), b(f, 2, 0, 0));
        }
        int[] both = {23, 0, 0, 0, 1, 0, 1, 0, 1, 2, 0, 3};
        heard(true, both, b(23, 2, 0, 0), b(23, 2, 9, 9));
        heard(false, both, b(23, 2, 0, 0), b(23, 1, 9, 9));
        heard(false, both, b(23, 2, 0, 0), b(23, 2, 9));
    }

    private static void fixedLengths() {
        heard(true, b(7), b(7, 0), b(7, 99));
        heard(false, b(7), b(7, 0), b(7));
        heard(true, b(11), b(11, 0, 0, 0, 0), b(11, 1, 2, 3, 4));
        heard(false, b(11), b(11, 0, 0, 0, 0), b(11, 0, 0, 0));
        heard(true, b(8, 0, 2, 0, 0), b(8, 0, 2, 0, 0), b(8, 0, 2, 9, 9));
        heard(false, b(8, 0, 2, 0, 0), b(8, 0, 2, 0, 0), b(8, 0, 11, 0, 0));
        heard(false, b(8, 0, 2, 0, 0), b(8, 0, 2, 0, 0), b(8, 0, 2, 0));
        heard(true, b(8, 0, 18, 0, 0), b(8, 0, 18, 0, 0), b(8, 0, 18, 1, 0));
        exchange(false, b(8, 0, 4, 0, 0), b(8, 0, 2, 0, 0), b(8, 0, 2, 0, 0), b(8, 0, 4, 0, 0));
        exchange(false, b(8, 0, 9, 0, 0), b(8, 0, 2, 0, 0), b(8, 0, 2, 0, 0), b(8, 0, 9, 0, 0));
        exchange(true, b(8, 0, 1, 0, 5), b(8, 0, 2, 0, 0), b(8, 0, 2, 0, 0), b(8, 0, 1, 0, 5));
        exchange(true, b(5, 0, 1, 0, 5), b(8, 0, 2, 0, 0), b(8, 0, 2, 0, 0), b(5, 0, 1, 0, 5));
    }

    private static void counted() {
        heard(true, b(17), b(17, 2, 0, 255), b(17, 2, 7, 7));
        heard(true, b(17), b(17, 2, 0, 255), b(17, 1, 7));
        heard(false, b(17), b(17, 2, 0, 255), b(17, 1, 7, 7));
        exchange(false, b(17), b(7), b(7, 0), b(17, 0));
        int[] told = {12, 7, 0, 0, 0, 0, 0, 1, 128};
        heard(true, b(12), told, told);
        heard(true, b(12), told, b(12, 6, 0, 0, 0, 0, 0, 1));
        heard(false, b(12), told, b(12, 8, 0, 0, 0, 0, 0, 1, 128));
        exchange(false, b(12), b(11), b(11, 0, 0, 0, 0), b(12, 3, 0, 0, 0));
    }

    private static void files() {
        int[] q = {20, 14, 6, 0, 1, 0, 0, 0, 1, 6, 0, 1, 0, 0, 0, 2};
        int[] a = {20, 10, 3, 6, 0, 0, 5, 6, 0, 0, 0, 0};
        heard(true, q, a, a);
        heard(true, q, a, b(20, 10, 3, 6, 1, 2, 5, 6, 3, 4, 5, 6));
        heard(false, q, a, b(20, 10, 3, 7, 0, 0, 5, 6, 0, 0, 0, 0));
        heard(false, q, a, b(20, 10, 5, 6, 0, 0, 0, 0, 3, 6, 0, 0));
        heard(false, q, a, b(20, 9, 3, 6, 0, 0, 5, 6, 0, 0, 0, 0));
        heard(false, q, a, b(20, 9, 3, 6, 0, 0, 5, 6, 0, 0, 0));
        int[] seven = q.clone();
        seven[2] = 7;
        exchange(true, seven, q, a, a);
        int[] long1 = q.clone();
        long1[7] = 1;
        exchange(false, long1, q, a, a);
    }

    private static void queues() {
        int[] a = {24, 0, 4, 0, 1, 0, 7};
        heard(true, b(24, 0, 9), a, a);
        heard(true, b(24, 0, 9), a, b(24, 0, 4, 0, 1, 9, 9));
        heard(false, b(24, 0, 9), a, b(24, 0, 4, 0, 2, 0, 7));
        heard(false, b(24, 0, 9), a, b(24, 0, 6, 0, 2, 0, 7));
        heard(false, b(24, 0, 9), a, b(24, 1, 4, 0, 1, 0, 7));
        heard(false, b(24, 0, 9), a, b(24, 0, 3, 0, 1, 0));
        FieldLine empty = line();
        empty.queue(0, 8);
        Check.request(empty, 5, 24, 0, 8);
        empty.tick(200);
        C.result(empty, "an empty queue", 0, 0, 1, 5);
        FieldLine x = line();
        x.bank(0, 2, 0, 40);
        int[] request = {24, 0, 0, 0, 34};
        Check.request(x, 5, request);
        x.tick(200);
        C.result(x, "a wrong length is refused", 1, 3, 1, 0);
        mostInAQueue(31, true);
        mostInAQueue(32, false);
    }

    /** A queue of 31 answers; the master hears that it has n. */
    private static void mostInAQueue(int n, boolean fits) {
        FieldLine x = line();
        for (int i = 0; i < 30; i++) {
            x.push(0, 9, 0);
        }
        int bytes = 2 + 2 * n;
        int[] told = Check.join(b(24, 0, 64, 0, 31, 0, 7), Check.repeat(0, 60));
        int[] answer = Check.join(b(24, 0, bytes, 0, n, 0, 7), Check.repeat(0, 60));
        Check.request(x, 5, 24, 0, 9);
        turn(x, 6, Check.frame(5, told), Check.frame(5, answer));
        x.tick(1000);
        C.result(x, n + " in a queue", fits ? 0 : 2, fits ? 0 : 3, 1, fits ? 67 : 0);
    }

    private static void texts() {
        int[] q = {43, 14, 1, 0};
        int[] a = {43, 14, 1, 129, 0, 0, 1, 0, 2, 65, 66};
        heard(true, q, a, a);
        heard(true, q, a, b(43, 14, 1, 1, 2, 3, 2, 0, 0, 7, 0));
        heard(false, q, a, b(43, 14, 1, 129, 0, 0, 2, 0, 2, 65, 66));
        heard(false, q, a, b(43, 14, 1, 129, 0, 0, 0, 0, 2, 65, 66));
        heard(false, q, a, b(43, 14, 1, 129, 0, 0, 1, 0, 1, 65, 66));
        heard(false, q, a, b(43, 14, 1, 129, 0, 0, 1, 0, 3, 65, 66));
        heard(false, q, a, b(43, 14, 2, 129, 0, 0, 1, 0, 2, 65, 66));
        heard(false, q, a, b(43, 14, 1, 129, 0, 0, 1, 0, 2, 65));
        exchange(false, b(43, 14, 5, 0), q, a, b(43, 14, 5, 129, 0, 0, 1, 0, 2, 65, 66));
        exchange(false, b(43, 13, 1, 0), q, a, b(43, 13, 1, 129, 0, 0, 1, 0, 2, 65, 66));
        FieldLine x = new FieldLine();
        x.device(5, 0);
        Check.request(x, 5, q);
        x.tick(200);
        C.result(x, "no texts", 0, 0, 1, 7);
        exchange(true, b(43, 14, 4, 77), q, a, b(43, 14, 4, 129, 0, 0, 1, 0, 2, 65, 66));
    }

    /** To a request that no device would serve for its form nothing fits, be the answer as it may. */
    private static void wrongRequests() {
        int[][] wrong = {{1, 0, 0, 0, 0}, {1, 0, 0, 7, 209}, {3, 0, 0, 0, 126}, {7, 0, 0, 0, 0}, {17, 0, 0, 0, 0},
            {99, 0, 0, 0, 0}, {15, 0, 0, 0, 1}, {24, 0, 9, 0, 0}, {43, 14, 1, 0, 0}, {22, 0, 0, 0, 0}};
        for (int[] q : wrong) {
            exchange(false, q, b(8, 0, 0, 0, 0), b(8, 0, 0, 0, 0), q);
            exchange(false, q, b(8, 0, 0, 0, 0), b(8, 0, 0, 0, 0), b(q[0], 3, 1, 1, 1));
        }
        exchange(false, b(21, 3, 0, 0, 0), b(8, 0, 0, 0, 0), b(8, 0, 0, 0, 0), b(21, 3, 0, 0, 0));
        exchange(true, b(6, 9, 9, 9, 9), b(8, 0, 0, 0, 0), b(8, 0, 0, 0, 0), b(6, 9, 9, 9, 9));
    }

    private static void refusals() {
        int[][] codes = {{1, 1}, {2, 1}, {3, 1}, {4, 1}, {0, 1}, {255, 1}, {6, 2}};
        for (int[] code : codes) {
            FieldLine x = line();
            Check.request(x, 5, 7);
            turn(x, 4, Check.frame(5, b(7, 0)), Check.frame(5, b(135, code[0])));
            x.tick(200);
            C.result(x, "refusal with " + code[0], code[1], code[1] == 2 ? 4 : code[0], 1, 0);
        }
        FieldLine x = line();
        Check.request(x, 5, 200);
        x.tick(200);
        C.result(x, "a function above 127", 1, 1, 1, 0);
        exchange(false, b(7), b(7), b(7, 0), b(136, 1));
        exchange(false, b(17), b(17), b(17, 2, 0, 255), b(145, 1, 1, 1));
    }
}
