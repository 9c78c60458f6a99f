/** Promises 17 and 18: what each function does, and what is refused. */
public final class ServeTest {
    private static final Check C = new Check("ServeTest");

    public static void main(String[] args) {
        calls();
        readBits();
        readWords();
        writeOne();
        diagnoses();
        countersAndEvents();
        writeMany();
        files();
        mask();
        readAndWrite();
        queue();
        texts();
        manyTexts();
        C.end();
    }

    private static int[] b(int... bytes) {
        return bytes;
    }

    private static FieldLine line() {
        FieldLine x = new FieldLine();
        x.device(5, 0);
        x.device(6, 0);
        for (int kind = 0; kind < 4; kind++) {
            x.bank(0, kind, 100, 20);
        }
        return x;
    }

    private static void calls() {
        FieldLine x = line();
        C.due("an empty tape", x.serve(0), -1);
        Check.load(x, Check.repeat(8, 254));
        C.due("254 bytes", x.serve(0), -1);
        C.due("the tape stays", x.state(14), 254);
        x.end(1);
        C.due("no device", x.serve(2), -1);
        C.due("device -1", x.serve(-1), -1);
        C.served(x, 1, b(17), 17, 2, 1, 255);
        C.due("the tape is empty", x.state(14), 0);
        C.due("answer(-1)", x.answer(-1), -1);
        C.due("serve again", x.serve(1), -1);
        C.due("the answer stays", x.answer(0), 17);
        int[] unknown = {0, 9, 10, 13, 14, 18, 19, 25, 42, 44, 99, 128, 129, 255};
        for (int f : unknown) {
            C.refused(x, 0, 1, f);
            C.refused(x, 0, 1, f, 0, 100, 0, 1);
        }
        int[] longest = Check.join(b(8, 0, 0), Check.repeat(77, 250));
        C.served(x, 0, longest, longest);
        C.due("counters 2 to 4", x.counter(0, 2) + x.counter(0, 3) + x.counter(0, 4), 0);
        C.due("no events", x.counter(0, 10), 0);
    }

    private static void readBits() {
        for (int f = 1; f <= 2; f++) {
            FieldLine x = line();
            x.put(0, f - 1, 100, 1);
            x.put(0, f - 1, 107, 1);
            x.put(0, f - 1, 109, 1);
            x.put(0, f - 1, 110, 1);
            C.served(x, 0, b(f, 0, 100, 0, 1), f, 1, 1);
            C.served(x, 0, b(f, 0, 100, 0, 8), f, 1, 129);
            C.served(x, 0, b(f, 0, 100, 0, 10), f, 2, 129, 2);
            C.served(x, 0, b(f, 0, 107, 0, 13), f, 2, 13, 0);
            C.refused(x, 0, 2, f, 0, 107, 0, 14);
            C.refused(x, 0, 2, f, 0, 99, 0, 2);
            C.refused(x, 0, 2, f, 0, 120, 0, 1);
            C.refused(x, 0, 2, f, 0, 100, 7, 208);
            C.refused(x, 0, 3, f, 0, 100, 7, 209);
            C.refused(x, 0, 3, f, 0, 100, 0, 0);
            C.refused(x, 0, 3, f, 0, 100, 0);
            C.refused(x, 0, 3, f, 0, 100, 0, 1, 0);
            C.refused(x, 0, 3, f);
            x.bank(0, f - 1, 0, 400);
            x.put(0, f - 1, 399, 1);
            int[] want = Check.join(b(f, 50), Check.repeat(0, 49), b(128));
            C.served(x, 0, b(f, 0, 0, 1, 144), want);
        }
        FieldLine x = line();
        x.put(0, 0, 101, 1);
        x.put(0, 0, 107, 1);
        x.put(0, 0, 108, 1);
        C.served(x, 0, b(7), 7, 130);
        C.refused(x, 0, 3, 7, 0);
        x.bank(0, 0, 65534, 2);
        x.put(0, 0, 65535, 1);
        C.served(x, 0, b(7), 7, 2);
        C.served(x, 1, b(7), 7, 0);
        C.refused(x, 0, 2, 1, 255, 255, 0, 2);
        C.served(x, 0, b(1, 255, 254, 0, 2), 1, 1, 2);
    }

    private static void readWords() {
        for (int f = 3; f <= 4; f++) {
            FieldLine x = line();
            x.put(0, f - 1, 119, 0xABCD);
            x.put(0, f - 1, 118, 7);
            C.served(x, 0, b(f, 0, 118, 0, 2), f, 4, 0, 7, 0xAB, 0xCD);
            C.refused(x, 0, 2, f, 0, 118, 0, 3);
            C.refused(x, 0, 2, f, 0, 99, 0, 1);
            C.refused(x, 0, 2, f, 0, 100, 0, 125);
            C.refused(x, 0, 3, f, 0, 100, 0, 126);
            C.refused(x, 0, 3, f, 0, 100, 0, 0);
            C.refused(x, 0, 3, f, 0, 100, 0);
            C.refused(x, 0, 3, f, 0, 100, 0, 1, 1);
            C.refused(x, 1, 2, f, 0, 100, 0, 1);
            x.bank(0, f - 1, 0, 125);
            C.served(x, 0, b(f, 0, 0, 0, 125), Check.join(b(f, 250), Check.repeat(0, 250)));
        }
    }

    private static void writeOne() {
        FieldLine x = line();
        C.served(x, 0, b(5, 0, 103, 255, 0), 5, 0, 103, 255, 0);
        C.due("the coil", x.get(0, 0, 103), 1);
        C.served(x, 0, b(5, 0, 103, 0, 0), 5, 0, 103, 0, 0);
        C.due("the coil", x.get(0, 0, 103), 0);
        C.refused(x, 0, 3, 5, 0, 103, 0, 1);
        C.refused(x, 0, 3, 5, 0, 99, 255, 1);
        C.refused(x, 0, 2, 5, 0, 99, 255, 0);
        C.refused(x, 0, 3, 5, 0, 99, 255);
        C.refused(x, 0, 3, 5, 0, 103, 255, 0, 0);
        C.served(x, 0, b(6, 0, 103, 18, 52), 6, 0, 103, 18, 52);
        C.due("the register", x.get(0, 2, 103), 0x1234);
        x.limit(0, 103, 60, 5, 10);
        C.refused(x, 0, 3, 6, 0, 103, 0, 4);
        C.refused(x, 0, 2, 6, 0, 120, 0, 4);
        C.refused(x, 0, 3, 6, 0, 120, 0);
        C.due("the register stays", x.get(0, 2, 103), 0x1234);
        C.due("counter 8", x.counter(0, 8), 3);
        C.served(x, 0, b(5, 0, 119, 255, 0), 5, 0, 119, 255, 0);
        C.due("the last coil", x.get(0, 0, 119), 1);
    }

    private static void diagnoses() {
        FieldLine x = line();
        C.refused(x, 0, 3, 8);
        C.refused(x, 0, 3, 8, 0);
        C.served(x, 0, b(8, 0, 0), 8, 0, 0);
        C.served(x, 0, b(8, 0, 0, 9, 8, 7), 8, 0, 0, 9, 8, 7);
        C.served(x, 0, b(8, 0, 2, 0, 0), 8, 0, 2, 0, 0);
        C.served(x, 0, b(8, 0, 4, 0, 0));
        C.due("deaf", x.counter(0, 9), 1);
        C.due("event", x.event(0, 0), 4);
        C.due("counter 8", x.counter(0, 8), 4);
        x.busy(0, 1);
        C.refused(x, 0, 6, 8, 0, 1, 0, 0);
        C.due("still deaf", x.counter(0, 9), 1);
        C.served(x, 0, b(8, 0, 17, 0, 0), 8, 0, 17, 0, 1);
        C.served(x, 0, b(8, 0, 1, 0, 0), 8, 0, 1, 0, 0);
        C.due("not deaf", x.counter(0, 9), 0);
        C.due("counter 6", x.counter(0, 6), 0);
        C.due("counter 8", x.counter(0, 8), 0);
        C.due("events", x.counter(0, 10), 2);
        C.due("the latest", x.event(0, 0), 0);
        C.due("the one ahead", x.event(0, 1), 4);
        C.served(x, 0, b(8, 0, 1, 255, 0), 8, 0, 1, 255, 0);
        C.due("events", x.counter(0, 10), 1);
        C.due("the latest", x.event(0, 0), 0);
        C.refused(x, 0, 3, 8, 0, 1, 0, 1);
        C.refused(x, 0, 3, 8, 0, 1, 0);
        int[] kinds = {2, 4, 10, 11, 12, 13, 14, 15, 16, 17, 18, 20};
        for (int kind : kinds) {
            C.refused(x, 0, 3, 8, 0, kind, 0, 1);
            C.refused(x, 0, 3, 8, 0, kind, 255, 0);
            C.refused(x, 0, 3, 8, 0, kind, 0);
            C.refused(x, 0, 3, 8, 0, kind, 0, 0, 0);
            C.refused(x, 0, 3, 8, 0, kind);
        }
        int[] others = {3, 5, 9, 19, 21, 255};
        for (int kind : others) {
            C.refused(x, 0, 1, 8, 0, kind, 0, 0);
            C.refused(x, 0, 1, 8, 0, kind);
        }
        C.refused(x, 0, 1, 8, 1, 0, 0, 0);
        C.due("not deaf", x.counter(0, 9), 0);
    }

    private static void countersAndEvents() {
        FieldLine x = line();
        x.busy(0, 1);
        Check.request(x, 5, 17);
        x.tick(400);
        Check.request(x, 5, 99);
        x.tick(400);
        Check.request(x, 0, 99);
        x.tick(400);
        int[] want = {4, 0, 2, 4, 1, 0, 1, 0};
        for (int k = 0; k < 8; k++) {
            C.due("counter " + k, x.counter(0, k), want[k]);
            C.served(x, 0, b(8, 0, 11 + k, 0, 0), 8, 0, 11 + k, 0, want[k]);
        }
        C.due("counter 8", x.counter(0, 8), 9);
        C.served(x, 0, b(11), 11, 0, 0, 0, 9);
        C.served(x, 0, b(12), 12, 13, 0, 0, 0, 9, 0, 4, 192, 65, 128, 64, 128, 68, 128);
        C.due("counter 8 stays", x.counter(0, 8), 9);
        C.refused(x, 0, 3, 11, 0);
        C.refused(x, 0, 3, 12, 0);
        C.refused(x, 0, 3, 17, 0);
        C.served(x, 0, b(8, 0, 20, 0, 0), 8, 0, 20, 0, 0);
        C.due("counter 8", x.counter(0, 8), 10);
        C.due("counter 0 stays", x.counter(0, 0), 4);
        C.due("counter 7", x.counter(0, 7), 0);
        C.served(x, 0, b(8, 0, 10, 0, 0), 8, 0, 10, 0, 0);
        for (int k = 0; k <= 8; k++) {
            C.due("counter " + k, x.counter(0, k), 0);
        }
        C.due("events stay", x.counter(0, 10), 7);
    }

    private static void writeMany() {
        FieldLine x = line();
        C.served(x, 0, b(15, 0, 101, 0, 10, 2, 0x85, 0xFD), 15, 0, 101, 0, 10);
        int[] coils = {0, 1, 0, 1, 0, 0, 0, 0, 1, 1, 0, 0};
        for (int i = 0; i < coils.length; i++) {
            C.due("coil " + (100 + i), x.get(0, 0, 100 + i), coils[i]);
        }
        C.refused(x, 0, 3, 15, 0, 101, 0, 0, 0);
        C.refused(x, 0, 3, 15, 0, 101, 0, 8);
        C.refused(x, 0, 3, 15, 0, 101, 0, 8, 2, 1, 1);
        C.refused(x, 0, 3, 15, 0, 101, 0, 8, 1);
        C.refused(x, 0, 3, 15, 0, 101, 0, 8, 1, 1, 1);
        C.refused(x, 0, 2, 15, 0, 113, 0, 8, 1, 1);
        C.refused(x, 0, 2, Check.join(b(15, 0, 100, 7, 176, 246), Check.repeat(0, 246)));
        C.refused(x, 0, 3, Check.join(b(15, 0, 100, 7, 177, 247), Check.repeat(0, 247)));
        C.served(x, 0, b(15, 0, 119, 0, 1, 1, 1), 15, 0, 119, 0, 1);
        C.due("the last coil", x.get(0, 0, 119), 1);
        x.put(0, 2, 102, 9);
        C.served(x, 0, b(16, 0, 101, 0, 1, 2, 1, 2), 16, 0, 101, 0, 1);
        C.due("the register behind stays", x.get(0, 2, 102), 9);
        C.served(x, 0, b(16, 0, 118, 0, 2, 4, 1, 2, 3, 4), 16, 0, 118, 0, 2);
        C.due("register", x.get(0, 2, 118), 258);
        C.due("register", x.get(0, 2, 119), 772);
        C.refused(x, 0, 3, 16, 0, 118, 0, 2, 3, 1, 2, 3);
        C.refused(x, 0, 3, 16, 0, 118, 0, 2, 4, 1, 2, 3);
        C.refused(x, 0, 3, 16, 0, 118, 0, 0, 0);
        C.refused(x, 0, 3, 16, 0, 118, 0, 2);
        C.refused(x, 0, 2, 16, 0, 119, 0, 2, 4, 1, 2, 3, 4);
        C.refused(x, 0, 2, Check.join(b(16, 0, 100, 0, 123, 246), Check.repeat(0, 246)));
        C.refused(x, 0, 3, Check.join(b(16, 0, 100, 0, 124, 248), Check.repeat(0, 247)));
        x.limit(0, 119, 1, 0, 5);
        C.refused(x, 0, 3, 16, 0, 118, 0, 2, 4, 0, 1, 0, 6);
        C.due("none is written", x.get(0, 2, 118), 258);
        C.due("counter 8", x.counter(0, 8), 4);
        C.served(x, 0, b(16, 0, 118, 0, 2, 4, 9, 9, 0, 5), 16, 0, 118, 0, 2);
        C.due("within the limit", x.get(0, 2, 119), 5);
    }

    private static void files() {
        FieldLine x = line();
        x.file(0, 1, 10);
        x.file(0, 300, 120);
        int[] write = {21, 22, 6, 0, 1, 0, 8, 0, 2, 1, 2, 3, 4, 6, 1, 44, 0, 119, 0, 1, 9, 9, 0, 0};
        C.refused(x, 0, 3, write);
        int[] right = {21, 20, 6, 0, 1, 0, 8, 0, 2, 1, 2, 3, 4, 6, 1, 44, 0, 119, 0, 1, 9, 9};
        C.served(x, 0, right, right);
        C.due("value", x.record(0, 1, 8), 258);
        C.due("value", x.record(0, 1, 9), 772);
        C.due("value", x.record(0, 300, 119), 2313);
        int[] twice = {21, 18, 6, 0, 1, 0, 0, 0, 1, 0, 1, 6, 0, 1, 0, 0, 0, 1, 0, 2};
        C.served(x, 0, twice, twice);
        C.due("in order", x.record(0, 1, 0), 2);
        int[] noValues = {21, 14, 6, 0, 1, 0, 10, 0, 0, 6, 0, 1, 0, 0, 0, 0};
        C.served(x, 0, noValues, noValues);
        C.refused(x, 0, 3, 21);
        C.refused(x, 0, 3, 21, 7, 6, 0, 1, 0, 0, 0, 0);
        C.refused(x, 0, 3, 21, 9, 6, 0, 1, 0, 0, 0, 2, 1, 1);
        C.refused(x, 0, 3, 21, 10, 6, 0, 1, 0, 0, 0, 1, 1, 1);
        C.refused(x, 0, 3, 21, 9, 7, 0, 1, 0, 0, 255, 255, 1, 1);
        C.refused(x, 0, 2, 21, 9, 7, 0, 1, 0, 0, 0, 1, 1, 1);
        C.refused(x, 0, 2, 21, 9, 6, 0, 2, 0, 0, 0, 1, 1, 1);
        C.refused(x, 0, 2, 21, 18, 6, 0, 1, 0, 0, 0, 1, 5, 5, 6, 0, 1, 0, 10, 0, 1, 1, 1);
        C.due("none is written", x.record(0, 1, 0), 2);
        C.refused(x, 0, 2, Check.join(b(21, 251, 6, 0, 1, 0, 0, 0, 122), Check.repeat(1, 244)));
        C.served(x, 0, b(20, 14, 6, 0, 1, 0, 8, 0, 2, 6, 1, 44, 0, 119, 0, 1),
                20, 10, 5, 6, 1, 2, 3, 4, 3, 6, 9, 9);
        C.served(x, 0, b(20, 7, 6, 0, 1, 0, 10, 0, 0), 20, 2, 1, 6);
        C.refused(x, 0, 3, 20);
        C.refused(x, 0, 3, 20, 0);
        C.refused(x, 0, 3, 20, 8, 6, 0, 1, 0, 0, 0, 1, 0);
        C.refused(x, 0, 3, 20, 14, 6, 0, 1, 0, 0, 0, 1);
        C.refused(x, 0, 3, 20, 7, 6, 0, 1, 0, 0, 0, 1, 0);
        C.refused(x, 0, 2, 20, 7, 5, 0, 1, 0, 0, 0, 1);
        C.refused(x, 0, 2, 20, 7, 6, 0, 9, 0, 0, 0, 1);
        C.refused(x, 0, 2, 20, 7, 6, 0, 1, 0, 10, 0, 1);
        C.refused(x, 0, 2, 20, 7, 6, 1, 44, 0, 0, 0, 121);
        C.refused(x, 0, 2, 20, 7, 6, 1, 44, 0, 0, 0, 124);
        C.refused(x, 0, 3, 20, 7, 6, 1, 44, 0, 0, 0, 125);
        C.refused(x, 0, 3, 20, 7, 5, 1, 44, 0, 0, 255, 255);
        C.refused(x, 0, 3, 20, 14, 6, 1, 44, 0, 0, 0, 120, 6, 1, 44, 0, 0, 0, 4);
        C.served(x, 0, b(20, 14, 6, 1, 44, 0, 0, 0, 119, 6, 1, 44, 0, 0, 0, 4), Check.join(
                b(20, 250, 239, 6), Check.repeat(0, 238), b(9, 6), Check.repeat(0, 8)));
        int[] most = b(20, 245);
        int[] mostAnswer = b(20, 70);
        for (int i = 0; i < 35; i++) {
            most = Check.join(most, b(6, 0, 1, 0, 0, 0, 0));
            mostAnswer = Check.join(mostAnswer, b(1, 6));
        }
        C.served(x, 0, most, mostAnswer);
        C.refused(x, 0, 3, Check.join(b(20, 252), Check.repeat(0, 251)));
    }

    private static void mask() {
        FieldLine x = line();
        x.put(0, 2, 104, 0x12);
        C.served(x, 0, b(22, 0, 104, 0, 0xF2, 0, 0x25), 22, 0, 104, 0, 0xF2, 0, 0x25);
        C.due("masked", x.get(0, 2, 104), 0x17);
        C.refused(x, 0, 2, 22, 0, 99, 0, 0, 0, 0);
        C.refused(x, 0, 3, 22, 0, 99, 0, 0, 0);
        C.refused(x, 0, 3, 22, 0, 104, 0, 0, 0, 0, 0);
        x.limit(0, 104, 1, 0x17, 0x17);
        C.refused(x, 0, 3, 22, 0, 104, 0, 0, 0, 0);
        C.served(x, 0, b(22, 0, 104, 255, 255, 9, 9), 22, 0, 104, 255, 255, 9, 9);
        C.due("masked", x.get(0, 2, 104), 0x17);
        C.served(x, 0, b(22, 0, 104, 0, 0, 0, 0x17), 22, 0, 104, 0, 0, 0, 0x17);
        C.refused(x, 0, 3, 22, 0, 104, 0, 0, 1, 0x17);
        C.served(x, 0, b(22, 0, 119, 0, 0, 1, 2), 22, 0, 119, 0, 0, 1, 2);
        C.due("the last register", x.get(0, 2, 119), 258);
    }

    private static void readAndWrite() {
        FieldLine x = line();
        x.put(0, 2, 100, 1);
        x.put(0, 2, 103, 8);
        C.served(x, 0, b(23, 0, 100, 0, 3, 0, 101, 0, 2, 4, 0, 2, 0, 3), 23, 6, 0, 1, 0, 2, 0, 3);
        C.due("the register behind stays", x.get(0, 2, 103), 8);
        C.refused(x, 0, 3, 23, 0, 100, 0, 3, 0, 101, 0, 2);
        C.refused(x, 0, 3, 23, 0, 100, 0, 0, 0, 101, 0, 2, 4, 0, 2, 0, 3);
        C.refused(x, 0, 3, 23, 0, 100, 0, 126, 0, 101, 0, 2, 4, 0, 2, 0, 3);
        C.refused(x, 0, 2, 23, 0, 100, 0, 125, 0, 101, 0, 2, 4, 0, 2, 0, 3);
        C.refused(x, 0, 3, 23, 0, 100, 0, 3, 0, 101, 0, 0, 0);
        C.refused(x, 0, 3, 23, 0, 100, 0, 3, 0, 101, 0, 2, 3, 0, 2, 0);
        C.refused(x, 0, 3, 23, 0, 100, 0, 3, 0, 101, 0, 2, 4, 0, 2, 0);
        C.refused(x, 0, 2, 23, 0, 100, 0, 3, 0, 119, 0, 2, 4, 0, 9, 0, 9);
        C.refused(x, 0, 2, 23, 0, 118, 0, 3, 0, 101, 0, 2, 4, 0, 9, 0, 9);
        C.refused(x, 0, 2, Check.join(b(23, 0, 100, 0, 3, 0, 100, 0, 121, 242), Check.repeat(0, 242)));
        C.refused(x, 0, 3, Check.join(b(23, 0, 100, 0, 3, 0, 100, 0, 122, 244), Check.repeat(0, 243)));
        x.limit(0, 102, 1, 0, 5);
        C.refused(x, 0, 3, 23, 0, 100, 0, 1, 0, 101, 0, 2, 4, 0, 9, 0, 9);
        C.due("none is written", x.get(0, 2, 101), 2);
    }

    private static void queue() {
        FieldLine x = line();
        x.queue(0, 500);
        C.served(x, 0, b(24, 1, 244), 24, 0, 2, 0, 0);
        x.push(0, 500, 300);
        x.push(0, 500, 2);
        C.served(x, 0, b(24, 1, 244), 24, 0, 6, 0, 2, 1, 44, 0, 2);
        C.served(x, 0, b(24, 1, 244), 24, 0, 6, 0, 2, 1, 44, 0, 2);
        C.refused(x, 0, 2, 24, 1, 245);
        C.refused(x, 0, 3, 24, 1);
        C.refused(x, 0, 3, 24, 1, 244, 0);
        for (int i = 3; i <= 31; i++) {
            x.push(0, 500, 2);
        }
        Check.load(x, 24, 1, 244);
        C.due("31 values", x.serve(0), 67);
        C.due("bytes", x.answer(2), 64);
        x.push(0, 500, 2);
        C.refused(x, 0, 3, 24, 1, 244);
    }

    private static void name(FieldLine x, int id, int... text) {
        Check.load(x, text);
        x.name(0, id);
    }

    private static void texts() {
        FieldLine x = line();
        C.served(x, 0, b(43, 14, 1, 0), 43, 14, 1, 129, 0, 0, 0);
        C.served(x, 0, b(43, 14, 3, 9), 43, 14, 3, 129, 0, 0, 0);
        name(x, 2, 22);
        C.served(x, 0, b(43, 14, 3, 0), 43, 14, 3, 129, 0, 0, 1, 2, 1, 22);
        name(x, 3, 33);
        C.served(x, 0, b(43, 14, 1, 3), 43, 14, 1, 130, 0, 0, 1, 2, 1, 22);
        x = line();
        name(x, 2, 22);
        name(x, 5, 55, 56);
        C.served(x, 0, b(43, 14, 1, 5), 43, 14, 1, 130, 0, 0, 1, 2, 1, 22);
        name(x, 200, 77);
        name(x, 0);
        C.served(x, 0, b(43, 14, 1, 0), 43, 14, 1, 131, 0, 0, 2, 0, 0, 2, 1, 22);
        C.served(x, 0, b(43, 14, 2, 2), 43, 14, 2, 131, 0, 0, 2, 2, 1, 22, 5, 2, 55, 56);
        C.served(x, 0, b(43, 14, 2, 200), 43, 14, 2, 131, 0, 0, 3, 0, 0, 2, 1, 22, 5, 2, 55, 56);
        C.served(x, 0, b(43, 14, 3, 5), 43, 14, 3, 131, 0, 0, 2, 5, 2, 55, 56, 200, 1, 77);
        C.served(x, 0, b(43, 14, 4, 200), 43, 14, 4, 131, 0, 0, 1, 200, 1, 77);
        C.served(x, 0, b(43, 14, 4, 2), 43, 14, 4, 131, 0, 0, 1, 2, 1, 22);
        C.refused(x, 0, 2, 43, 14, 4, 1);
        C.refused(x, 0, 3, 43, 14, 0, 0);
        C.refused(x, 0, 3, 43, 14, 5, 0);
        C.refused(x, 0, 3, 43, 14, 1);
        C.refused(x, 0, 3, 43, 14, 1, 0, 0);
        C.refused(x, 0, 3, 43, 14);
        C.refused(x, 0, 1, 43, 13);
        C.refused(x, 0, 1, 43, 13, 1, 0);
        C.refused(x, 0, 3, 43);
    }

    private static void manyTexts() {
        FieldLine x = line();
        for (int id = 0; id < 7; id++) {
            name(x, id, Check.repeat(id, id == 6 ? 35 : 39));
        }
        int[] six = b(43, 14, 2, 130, 255, 6, 6);
        for (int id = 0; id < 6; id++) {
            six = Check.join(six, b(id, 39), Check.repeat(id, 39));
        }
        C.due("bytes", six.length, 253);
        C.served(x, 0, b(43, 14, 2, 0), six);
        C.served(x, 0, b(43, 14, 2, 6), Check.join(b(43, 14, 2, 130, 0, 0, 1, 6, 35), Check.repeat(6, 35)));
        name(x, 5, Check.repeat(5, 40));
        Check.load(x, 43, 14, 3, 0);
        C.due("only five go whole", x.serve(0), 212);
        C.due("the id that would come", x.answer(5), 5);
        C.due("how many", x.answer(6), 5);
    }
}
