import java.util.Arrays;

/** Which answers fit a request (part 5 of the terms). */
public final class FitsTest extends Check {
    private static final int LAG = 50;

    public static void main(String[] args) {
        sameAgain();
        firstFive();
        bits();
        words();
        both();
        twoBytes();
        diagnoses();
        fiveBytes();
        events();
        whoItIs();
        files();
        queues();
        texts();
        otherFunctions();
        wrongLengths();
        wrongNumbers();
        wrongByteCounts();
        wrongParts();
        wrongTexts();
        wrongKinds();
        valuesAside();
        end("FitsTest");
    }

    private static int[] b(int... bytes) {
        return bytes;
    }

    /** A run of bytes that starts so and has so many more of a kind behind it. */
    private static int[] b(int[] first, int b, int times) {
        return join(first, repeat(b, times));
    }

    /**
     * The master waits for an answer to q, and hears a. A device echoes bytes so late that q comes in between; q is
     * harmed, so that the device does not know of it, and the echo is turned into a.
     */
    private static FieldLine hears(int[] q, int[] a) {
        int[] echo = join(b(8, 0, 0), a.length > 3 ? Arrays.copyOfRange(a, 3, a.length) : b());
        FieldLine x = new FieldLine();
        x.device(5, LAG);
        x.settings(1, 20, 0);
        request(x, 5, echo);
        ticks(x, 4 * (echo.length + 3) + 20);
        x.take();
        x.settings(1, 5000, 0);
        request(x, 5, q);
        x.harm(0, 1);
        turn(x, q.length + 3, frame(5, echo), frame(5, a));
        ticks(x, 4 * (q.length + 3) + LAG + 4 * (echo.length + 3) + 20);
        return x;
    }

    private static String told(int[] q, int[] a) {
        return Arrays.toString(q) + " and " + Arrays.toString(a);
    }

    private static void fits(int[] q, int[] a) {
        FieldLine x = hears(q, a);
        result(x, told(q, a), 0, 0, 1, a.length);
        int bytes = x.result(4);
        for (int k = 0; k < a.length && k < bytes; k++) {
            due(told(q, a) + ": data(" + k + ")", x.data(k), a[k]);
        }
    }

    private static void fitsNot(int[] q, int[] a) {
        result(hears(q, a), told(q, a), 2, 3, 1, 0);
    }

    private static int[] shorter(int[] a) {
        return Arrays.copyOf(a, a.length - 1);
    }

    private static int[] longer(int[] a) {
        return join(a, b(0));
    }

    /** No answer fits but this one: none that is shorter, longer or turned in one byte. */
    private static void fitsAlone(int[] q, int[] a) {
        fits(q, a);
        fitsNot(q, shorter(a));
        fitsNot(q, longer(a));
        for (int i = 0; i < a.length; i++) {
            int[] other = a.clone();
            other[i] ^= 1;
            fitsNot(q, other);
        }
    }

    private static void sameAgain() {
        sentence("Terms 5: 5, 6, 21, 22, 8 with 0, 1, 10, 20: A is Q");
        int[][] requests = {{5, 0, 1, 255, 0}, {6, 0, 1, 0, 7}, {21, 9, 6, 0, 1, 0, 0, 0, 1, 3, 4}, {22, 0, 1, 0, 7, 0, 8},
            {8, 0, 0}, {8, 0, 0, 3}, {8, 0, 0, 3, 4, 5}, {8, 0, 1, 255, 0}, {8, 0, 1, 0, 0}, {8, 0, 10, 0, 0},
            {8, 0, 20, 0, 0}};
        for (int[] q : requests) {
            fitsAlone(q, q);
        }
        int[] longest = b(b(8, 0, 0), 9, 250);
        fits(longest, longest);
    }

    private static void firstFive() {
        sentence("Terms 5: 15, 16: A is Q's first five bytes");
        fitsAlone(b(15, 0, 1, 0, 3, 1, 5), b(15, 0, 1, 0, 3));
        fitsAlone(b(16, 0, 1, 0, 1, 2, 0, 5), b(16, 0, 1, 0, 1));
        fitsNot(b(15, 0, 1, 0, 3, 1, 5), b(15, 0, 1, 0, 3, 1, 5));
        fits(b(15, 0, 1, 0, 1, 1, 1), b(15, 0, 1, 0, 1));
        fits(b(15, 0, 1, 0, 8, 1, 5), b(15, 0, 1, 0, 8));
        fits(b(15, 0, 1, 0, 9, 2, 5, 1), b(15, 0, 1, 0, 9));
        fits(b(b(15, 0, 0, 7, 176, 246), 0, 246), b(15, 0, 0, 7, 176));
        fits(b(b(16, 0, 0, 0, 123, 246), 0, 246), b(16, 0, 0, 0, 123));
    }

    private static void bits() {
        sentence("Terms 5: 1, 2: A's second byte is (n + 7) / 8, and so many bytes are behind it");
        for (int f = 1; f <= 2; f++) {
            fits(b(f, 0, 0, 0, 1), b(f, 1, 255));
            fits(b(f, 0, 0, 0, 8), b(f, 1, 0));
            fits(b(f, 0, 0, 0, 9), b(f, 2, 7, 9));
            fits(b(f, 0, 0, 7, 208), b(b(f, 250), 1, 250));
            fitsNot(b(f, 0, 0, 0, 8), b(f, 2, 0, 0));
            fitsNot(b(f, 0, 0, 0, 9), b(f, 1, 0));
            fitsNot(b(f, 0, 0, 0, 9), b(f, 2, 0));
            fitsNot(b(f, 0, 0, 0, 9), b(f, 2, 0, 0, 0));
            fitsNot(b(f, 0, 0, 0, 9), b(f, 3, 0, 0));
            fitsNot(b(f, 0, 0, 0, 9), b(f));
            fitsNot(b(f, 0, 0, 7, 208), b(b(f, 249), 1, 249));
            fitsNot(b(f, 0, 0, 7, 200), b(b(f, 250), 1, 250));
        }
    }

    private static void words() {
        sentence("Terms 5: 3, 4: likewise 2 n");
        for (int f = 3; f <= 4; f++) {
            fits(b(f, 0, 0, 0, 1), b(f, 2, 255, 1));
            fits(b(f, 0, 0, 0, 125), b(b(f, 250), 1, 250));
            fitsNot(b(f, 0, 0, 0, 1), b(f, 2, 0));
            fitsNot(b(f, 0, 0, 0, 1), b(f, 2, 0, 0, 0));
            fitsNot(b(f, 0, 0, 0, 1), b(f, 1, 0));
            fitsNot(b(f, 0, 0, 0, 1), b(f, 4, 0, 0, 0, 0));
            fitsNot(b(f, 0, 0, 0, 1), b(f, 1, 0, 0));
            fitsNot(b(f, 0, 0, 0, 1), b(f, 3, 0, 0));
            fitsNot(b(f, 0, 0, 0, 2), b(f, 2, 0, 0, 0, 0));
            fitsNot(b(f, 0, 0, 0, 1), b(f));
            fitsNot(b(f, 0, 0, 0, 124), b(b(f, 250), 1, 250));
        }
    }

    private static void both() {
        sentence("Terms 5: 23: likewise 2 n");
        int[] q = {23, 0, 0, 0, 1, 0, 1, 0, 2, 4, 0, 3, 0, 4};
        fits(q, b(23, 2, 9, 9));
        fitsNot(q, b(23, 4, 9, 9, 9, 9));
        fitsNot(q, b(23, 2, 9));
        fitsNot(q, b(23, 2, 9, 9, 9));
        fitsNot(q, b(23, 1, 9, 9));
        fitsNot(q, b(23));
        fits(b(23, 0, 0, 0, 1, 0, 1, 0, 1, 2, 0, 3), b(23, 2, 9, 9));
        fits(b(b(23, 0, 0, 0, 125, 0, 0, 0, 121, 242), 1, 242), b(b(23, 250), 1, 250));
    }

    private static void twoBytes() {
        sentence("Terms 5: 7: two bytes");
        fits(b(7), b(7, 0));
        fits(b(7), b(7, 255));
        fitsNot(b(7), b(7));
        fitsNot(b(7), b(7, 0, 0));
    }

    private static void diagnoses() {
        sentence("Terms 5: 8 else: five bytes, the first three as Q's");
        int[] kinds = {2, 11, 12, 13, 14, 15, 16, 17, 18};
        for (int kind : kinds) {
            fits(b(8, 0, kind, 0, 0), b(8, 0, kind, 9, 255));
            fitsNot(b(8, 0, kind, 0, 0), b(8, 0, kind, 0));
            fitsNot(b(8, 0, kind, 0, 0), b(8, 0, kind, 0, 0, 0));
            fitsNot(b(8, 0, kind, 0, 0), b(8, 1, kind, 0, 0));
            fitsNot(b(8, 0, kind, 0, 0), b(8, 0, kind + 1, 0, 0));
        }
    }

    private static void fiveBytes() {
        sentence("Terms 5: 11: five");
        fits(b(11), b(11, 1, 2, 3, 4));
        fitsNot(b(11), b(11, 0, 0, 0));
        fitsNot(b(11), b(11, 0, 0, 0, 0, 0));
    }

    private static void events() {
        sentence("Terms 5: 12: A's second byte is how many are behind it, 6 to 70");
        int[] right = {6, 7, 70};
        for (int n : right) {
            fits(b(12), b(b(12, n), 1, n));
            fitsNot(b(12), b(b(12, n), 1, n + 1));
            fitsNot(b(12), b(b(12, n), 1, n - 1));
        }
        int[] wrong = {0, 5, 71, 251};
        for (int n : wrong) {
            fitsNot(b(12), b(b(12, n), 1, n));
        }
        fitsNot(b(12), b(12));
    }

    private static void whoItIs() {
        sentence("Terms 5: 17: likewise, 1 at least");
        int[] right = {1, 2, 251};
        for (int n : right) {
            fits(b(17), b(b(17, n), 1, n));
            fitsNot(b(17), b(b(17, n), 1, n - 1));
        }
        fitsNot(b(17), b(17, 1, 0, 0));
        fitsNot(b(17), b(17, 0));
        fitsNot(b(17), b(17));
    }

    private static void files() {
        sentence("Terms 5: 20: they are for each part, in order, a byte 1 and 2 n, 6, 2 n bytes");
        int[] q = {20, 14, 6, 0, 1, 0, 0, 0, 1, 6, 0, 1, 0, 0, 0, 2};
        fits(q, b(20, 10, 3, 6, 1, 2, 5, 6, 3, 4, 5, 6));
        fitsNot(q, b(20, 10, 5, 6, 3, 4, 5, 6, 3, 6, 1, 2));
        fitsNot(q, b(20, 10, 3, 7, 1, 2, 5, 6, 3, 4, 5, 6));
        fitsNot(q, b(20, 10, 3, 6, 1, 2, 5, 5, 3, 4, 5, 6));
        fitsNot(q, b(20, 10, 2, 6, 1, 2, 5, 6, 3, 4, 5, 6));
        fitsNot(q, b(20, 10, 3, 6, 1, 2, 4, 6, 3, 4, 5, 6));
        fitsNot(q, b(20, 9, 3, 6, 1, 2, 5, 6, 3, 4, 5, 6));
        fitsNot(q, b(20, 9, 3, 6, 1, 2, 5, 6, 3, 4, 5));
        fitsNot(q, b(20, 11, 3, 6, 1, 2, 5, 6, 3, 4, 5, 6, 0));
        fitsNot(q, b(20, 4, 3, 6, 1, 2));
        fitsNot(q, b(20, 5, 3, 6, 1, 2, 5));
        fitsNot(q, b(20, 6, 3, 6, 1, 2, 5, 6));
        fitsNot(q, b(20, 0));
        fitsNot(q, b(20));
        fits(b(20, 7, 6, 0, 1, 0, 0, 0, 0), b(20, 2, 1, 6));
        fitsNot(b(20, 7, 6, 0, 1, 0, 0, 0, 0), b(20, 0));
        fitsNot(b(20, 7, 6, 0, 1, 0, 0, 0, 0), b(20, 1, 1));
        fits(b(20, 7, 6, 0, 1, 0, 0, 0, 124), b(b(20, 250, 249, 6), 1, 248));
        int[] three = {20, 21, 6, 0, 1, 0, 0, 0, 5, 6, 0, 2, 0, 9, 0, 0, 6, 1, 1, 1, 1, 0, 3};
        fits(three, join(b(b(20, 22, 11, 6), 9, 10), b(1, 6), b(b(7, 6), 8, 6)));
        fitsNot(three, join(b(b(20, 22, 11, 6), 9, 10), b(1, 6), b(b(7, 5), 8, 6)));
        fitsNot(three, join(b(b(20, 20, 11, 6), 9, 10), b(b(7, 6), 8, 6)));
        fitsNot(three, join(b(b(20, 24, 11, 6), 9, 10), b(1, 6), b(b(7, 6), 8, 6), b(1, 6)));
        int[] most = b(20, 245);
        int[] answer = b(20, 70);
        for (int i = 0; i < 35; i++) {
            most = join(most, b(6, 0, 1, 0, 0, 0, 0));
            answer = join(answer, b(1, 6));
        }
        fits(most, answer);
        answer[1] = 68;
        fitsNot(most, Arrays.copyOf(answer, 70));
    }

    private static void queues() {
        sentence("Terms 5: 24: how many are behind them, 2 and twice what the next two tell");
        int[] q = {24, 0, 9};
        fits(q, b(24, 0, 2, 0, 0));
        fits(q, b(24, 0, 4, 0, 1, 9, 9));
        fitsNot(q, b(24, 0, 4, 0, 2, 0, 7));
        fitsNot(q, b(24, 0, 6, 0, 2, 0, 7));
        fitsNot(q, b(24, 0, 4, 0, 2, 0, 7, 0, 7));
        fitsNot(q, b(24, 1, 4, 0, 1, 0, 7));
        fitsNot(q, b(24, 0, 4, 1, 1, 0, 7));
        fitsNot(q, b(24, 0, 3, 0, 1, 0));
        fitsNot(q, b(24, 0, 4, 0, 1, 0));
        fitsNot(q, b(24, 0, 2, 0, 1));
        fitsNot(q, b(24, 0, 1, 0));
        fitsNot(q, b(24, 0, 0));
        fitsNot(q, b(24, 0));
        sentence("Terms 5: 24: which is 31 at most");
        fits(q, b(b(24, 0, 64, 0, 31), 1, 62));
        fitsNot(q, b(b(24, 0, 66, 0, 32), 1, 64));
        fitsNot(q, b(b(24, 0, 242, 0, 120), 1, 240));
    }

    private static void texts() {
        sentence("Terms 5: 43: seven at least, the first three as Q's");
        int[] q = {43, 14, 1, 0};
        fits(q, b(43, 14, 1, 129, 0, 0, 0));
        fits(q, b(43, 14, 1, 1, 2, 3, 0));
        fitsNot(q, b(43, 14, 1, 129, 0, 0));
        fitsNot(q, b(43, 14, 1));
        fitsNot(q, b(43, 14, 2, 129, 0, 0, 0));
        fitsNot(q, b(43, 13, 1, 129, 0, 0, 0));
        for (int code = 2; code <= 4; code++) {
            fits(b(43, 14, code, 77), b(43, 14, code, 129, 0, 0, 1, 9, 1, 65));
        }
        sentence("Terms 5: 43: as many texts as the seventh tells (id, how many bytes, these), just to the end");
        fits(q, b(43, 14, 1, 129, 0, 0, 1, 0, 2, 65, 66));
        fits(q, b(43, 14, 1, 129, 0, 0, 2, 0, 0, 7, 0));
        fits(q, b(43, 14, 1, 129, 0, 0, 2, 0, 1, 65, 7, 0));
        fitsNot(q, b(43, 14, 1, 129, 0, 0, 2, 0, 2, 65, 66));
        fitsNot(q, b(43, 14, 1, 129, 0, 0, 0, 0, 2, 65, 66));
        fitsNot(q, b(43, 14, 1, 129, 0, 0, 0, 0));
        fitsNot(q, b(43, 14, 1, 129, 0, 0, 1));
        fitsNot(q, b(43, 14, 1, 129, 0, 0, 1, 0));
        fitsNot(q, b(43, 14, 1, 129, 0, 0, 1, 0, 1, 65, 66));
        fitsNot(q, b(43, 14, 1, 129, 0, 0, 1, 0, 3, 65, 66));
        fitsNot(q, b(43, 14, 1, 129, 0, 0, 2, 0, 0, 7, 1));
        fitsNot(q, b(43, 14, 1, 129, 0, 0, 2, 0, 0, 7));
        fitsNot(q, b(43, 14, 1, 129, 0, 0, 255, 0, 0, 7, 0));
        fits(q, b(b(43, 14, 1, 129, 0, 0, 123), 0, 246));
        fitsNot(q, b(b(43, 14, 1, 129, 0, 0, 124), 0, 246));
        fits(q, b(b(43, 14, 1, 129, 0, 0, 1, 0, 244), 9, 244));
    }

    private static void otherFunctions() {
        sentence("Terms 5: an answer A FITS a request Q of the same F");
        int[][] pairs = {{1, 2}, {2, 1}, {3, 4}, {4, 3}};
        for (int[] f : pairs) {
            fitsNot(b(f[0], 0, 0, 0, 1), f[0] < 3 ? b(f[1], 1, 0) : b(f[1], 2, 0, 0));
        }
        fitsNot(b(7), b(8, 0));
        fitsNot(b(11), b(12, 0, 0, 0, 0));
        fitsNot(b(17), b(12, 6, 0, 0, 0, 0, 0, 0));
        int[] unknown = {0, 9, 10, 13, 14, 18, 19, 25, 42, 44, 99, 255};
        for (int f : unknown) {
            fitsNot(b(f), b(f));
            fitsNot(b(f, 0, 0, 0, 0), b(f, 0, 0, 0, 0));
            fitsNot(b(f, 0, 0, 0, 0), b(f, 3, 0, 0, 0));
        }
    }

    private static void wrongLengths() {
        sentence("Terms 5: none does, if 3's L is against Q");
        int[][] same = {{5, 0, 1, 255, 0}, {6, 0, 1, 0, 7}, {22, 0, 1, 0, 7, 0, 8}, {8, 0, 1, 0, 0}, {8, 0, 10, 0, 0},
            {8, 0, 20, 0, 0}};
        for (int[] q : same) {
            fitsNot(shorter(q), shorter(q));
            fitsNot(longer(q), longer(q));
        }
        int[][][] others = {{{1, 0, 0, 0, 1}, {1, 1, 0}}, {{2, 0, 0, 0, 1}, {2, 1, 0}}, {{3, 0, 0, 0, 1}, {3, 2, 0, 0}},
            {{4, 0, 0, 0, 1}, {4, 2, 0, 0}}, {{24, 0, 9}, {24, 0, 2, 0, 0}}, {{43, 14, 1, 0}, {43, 14, 1, 129, 0, 0, 0}},
            {{8, 0, 2, 0, 0}, {8, 0, 2, 0, 0}}, {{8, 0, 11, 0, 0}, {8, 0, 11, 0, 0}}};
        for (int[][] pair : others) {
            fits(pair[0], pair[1]);
            fitsNot(shorter(pair[0]), pair[1]);
            fitsNot(longer(pair[0]), pair[1]);
        }
        fitsNot(b(7, 0), b(7, 0));
        fitsNot(b(11, 0), b(11, 0, 0, 0, 0));
        fitsNot(b(12, 0), b(12, 6, 0, 0, 0, 0, 0, 0));
        fitsNot(b(17, 0), b(17, 1, 0));
        fitsNot(b(8), b(8));
        fitsNot(b(8, 0), b(8, 0));
        fitsNot(b(15, 0, 0, 0, 1), b(15, 0, 0, 0, 1));
        fitsNot(b(16, 0, 0, 0, 1), b(16, 0, 0, 0, 1));
        fitsNot(b(20), b(20, 0));
        fitsNot(b(20), b(20));
        fitsNot(b(21), b(21));
        fitsNot(b(23, 0, 0, 0, 1, 0, 1, 0, 1), b(23, 2, 0, 0));
        fitsNot(b(43), b(43, 14, 1, 129, 0, 0, 0));
    }

    private static void wrongNumbers() {
        sentence("Terms 5: none does, if what 3 tells of n, m is against Q");
        for (int f = 1; f <= 2; f++) {
            fitsNot(b(f, 0, 0, 0, 0), b(f, 0));
            fitsNot(b(f, 0, 0, 7, 209), b(b(f, 251), 0, 251));
        }
        for (int f = 3; f <= 4; f++) {
            fitsNot(b(f, 0, 0, 0, 0), b(f, 0));
            fitsNot(b(f, 0, 0, 0, 128), b(f, 0));
            fitsNot(b(f, 0, 0, 0, 126), b(b(f, 252), 0, 251));
        }
        fitsNot(b(15, 0, 0, 0, 0, 0), b(15, 0, 0, 0, 0));
        fitsNot(b(b(15, 0, 0, 7, 177, 247), 0, 247), b(15, 0, 0, 7, 177));
        fitsNot(b(16, 0, 0, 0, 0, 0), b(16, 0, 0, 0, 0));
        fitsNot(b(16, 0, 0, 0, 128, 0), b(16, 0, 0, 0, 128));
        fitsNot(b(23, 0, 0, 0, 0, 0, 1, 0, 1, 2, 0, 3), b(23, 0));
        fitsNot(b(23, 0, 0, 0, 126, 0, 1, 0, 1, 2, 0, 3), b(b(23, 252), 0, 251));
        fitsNot(b(23, 0, 0, 0, 1, 0, 1, 0, 0, 0), b(23, 2, 0, 0));
        fitsNot(b(23, 0, 0, 0, 1, 0, 1, 0, 128, 0), b(23, 2, 0, 0));
    }

    private static void wrongByteCounts() {
        sentence("Terms 5: none does, if what 3 tells of b is against Q");
        int[][] coils = {{15, 0, 0, 0, 8, 2, 1, 1}, {15, 0, 0, 0, 9, 1, 1}, {15, 0, 0, 0, 8, 1}, {15, 0, 0, 0, 8, 1, 1, 1}};
        int[][] registers = {{16, 0, 0, 0, 1, 1, 1}, {16, 0, 0, 0, 1, 3, 1, 1, 1}, {16, 0, 0, 0, 1, 2, 1},
            {16, 0, 0, 0, 1, 2, 1, 1, 1}};
        int[][] both = {{23, 0, 0, 0, 1, 0, 0, 0, 1, 1, 1}, {23, 0, 0, 0, 1, 0, 0, 0, 1, 3, 1, 1, 1},
            {23, 0, 0, 0, 1, 0, 0, 0, 1, 2, 1}, {23, 0, 0, 0, 1, 0, 0, 0, 1, 2, 1, 1, 1}};
        for (int i = 0; i < 4; i++) {
            fitsNot(coils[i], Arrays.copyOf(coils[i], 5));
            fitsNot(registers[i], Arrays.copyOf(registers[i], 5));
            fitsNot(both[i], b(23, 2, 0, 0));
        }
    }

    private static void wrongParts() {
        sentence("Terms 5: none does, if what 3 tells of parts, the answer's length is against Q");
        fitsNot(b(20, 0), b(20, 0));
        fitsNot(b(20, 8, 6, 0, 1, 0, 0, 0, 1, 0), b(20, 4, 3, 6, 0, 0));
        fitsNot(b(20, 14, 6, 0, 1, 0, 0, 0, 1), b(20, 4, 3, 6, 0, 0));
        fitsNot(b(20, 7, 6, 0, 1, 0, 0, 0, 1, 0), b(20, 4, 3, 6, 0, 0));
        fitsNot(b(20, 7, 6, 0, 1, 0, 0, 0, 125), b(b(20, 251, 251, 6), 0, 249));
        int[][] writes = {{21, 7, 6, 0, 1, 0, 0, 0, 0}, {21, 9, 6, 0, 1, 0, 0, 0, 2, 3, 4}, {21, 9, 6, 0, 1, 0, 0, 0, 0, 3, 4},
            {21, 9, 6, 0, 1, 0, 0, 0, 1, 3}, {21, 9, 6, 0, 1, 0, 0, 0, 1, 3, 4, 5}, {21, 8, 6, 0, 1, 0, 0, 0, 1, 3}, {21, 0},
            {21, 10, 6, 0, 1, 0, 0, 0, 2, 3, 4, 5}, {21, 10, 6, 0, 1, 0, 0, 0, 1, 3, 4, 5}};
        for (int[] q : writes) {
            fitsNot(q, q);
        }
    }

    private static void wrongTexts() {
        sentence("Terms 5: none does, if what 3 tells of 43 also 14 and code is against Q");
        int[][] wrong = {{43, 13, 1, 0}, {43, 15, 1, 0}, {43, 14, 0, 0}, {43, 14, 5, 0}};
        for (int[] q : wrong) {
            fitsNot(q, b(43, q[1], q[2], 129, 0, 0, 0));
        }
    }

    private static void wrongKinds() {
        sentence("Terms 5: of 8 none but the kinds 0, 1, 2, 10 to 18, 20");
        int[] kinds = {3, 4, 5, 9, 19, 21, 255};
        for (int kind : kinds) {
            fitsNot(b(8, 0, kind, 0, 0), b(8, 0, kind, 0, 0));
        }
        fitsNot(b(8, 1, 0, 0, 0), b(8, 1, 0, 0, 0));
        fitsNot(b(8, 1, 11, 0, 0), b(8, 1, 11, 0, 0));
    }

    private static void valuesAside() {
        sentence("Terms 5: values, LIMITS, file's 6 aside");
        int[][] requests = {{5, 0, 1, 0, 5}, {5, 255, 255, 255, 255}, {6, 255, 255, 9, 9}, {8, 0, 1, 0, 5}, {8, 0, 10, 9, 9},
            {8, 0, 20, 0, 1}, {21, 9, 7, 0, 0, 255, 255, 0, 1, 3, 4}, {22, 255, 255, 0, 7, 0, 8}};
        for (int[] q : requests) {
            fits(q, q);
        }
        fits(b(8, 0, 2, 0, 1), b(8, 0, 2, 0, 0));
        fits(b(8, 0, 11, 255, 255), b(8, 0, 11, 0, 0));
        fits(b(20, 7, 7, 0, 0, 255, 255, 0, 1), b(20, 4, 3, 6, 0, 0));
        fits(b(1, 255, 255, 7, 208), b(b(1, 250), 1, 250));
    }
}
