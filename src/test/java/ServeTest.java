/** Promises 17 and 18, and what part 3 of the terms tells of banks: functions 1 to 7, 15, 16, 22, 23. */
public final class ServeTest extends Check {
    public static void main(String[] args) {
        calls();
        refusals();
        readBits();
        readWords();
        writeCoil();
        writeRegister();
        firstCoils();
        writeCoils();
        writeRegisters();
        mask();
        readAndWrite();
        end("ServeTest");
    }

    /** A device whose banks have the places 100 to 119, and one without any. */
    private static FieldLine line() {
        FieldLine x = new FieldLine();
        x.device(5, 0);
        x.device(6, 0);
        for (int kind = 0; kind < 4; kind++) {
            x.bank(0, kind, 100, 20);
        }
        return x;
    }

    /** Too few and too many bytes of a right PDU are refused with 3, and change nothing that counter 8 tells. */
    private static void onlyWhole(FieldLine x, int... pdu) {
        for (int n = 1; n < pdu.length; n++) {
            refused(x, 0, 3, java.util.Arrays.copyOf(pdu, n));
        }
        refused(x, 0, 3, join(pdu, bytes(0)));
    }

    private static void calls() {
        serveTakesTheTape();
        serveOfWrongTapes();
        serveWithoutDevice();
        serveDeafOrNot();
        serveWithoutCounters();
        answerBytes();
        answerIsReplaced();
    }

    private static void serveTakesTheTape() {
        sentence("17: the TAPE (empty then) is SERVED: how many bytes");
        FieldLine x = line();
        load(x, 17);
        due("serve", x.serve(1), 4);
        tapeIs(x, "behind it");
        due("state(15)", x.state(15), 4);
        load(x, 8, 0, 4, 0, 0);
        due("0 without one", x.serve(0), 0);
        tapeIs(x, "behind it");
        due("state(15)", x.state(15), 0);
        due("answer(0)", x.answer(0), NONE);
    }

    private static void serveOfWrongTapes() {
        sentence("17: 1 to 253 bytes; NONE: other bytes");
        FieldLine x = line();
        int[] longest = join(bytes(8, 0, 0), repeat(77, 250));
        echoed(x, 0, longest);
        due("an empty tape", x.serve(0), NONE);
        int[] tooLong = join(longest, bytes(7));
        load(x, tooLong);
        due("254 bytes", x.serve(0), NONE);
        tapeIs(x, "254 bytes", tooLong);
        load(x, repeat(8, 400));
        due("400 bytes", x.serve(0), NONE);
        due("the answer stays", x.state(15), 253);
        x.end(1);
        due("1 byte", x.serve(0), 2);
    }

    private static void serveWithoutDevice() {
        sentence("17: NONE: no such device");
        FieldLine x = line();
        load(x, 17);
        int[] wrong = {2, 6, -1, Integer.MIN_VALUE, Integer.MAX_VALUE};
        for (int d : wrong) {
            due("device " + d, x.serve(d), NONE);
        }
        tapeIs(x, "behind these", 17);
        due("no answer", x.state(15), 0);
    }

    private static void serveDeafOrNot() {
        sentence("17: SERVED at once as to its own address (DEAF or not)");
        FieldLine x = line();
        load(x, 8, 0, 4, 0, 0);
        x.serve(0);
        counters(x, 0, "deaf", 9, 1);
        served(x, 0, bytes(17), 17, 2, 0, 255);
        echoed(x, 0, 6, 0, 100, 0, 9);
        due("written", x.get(0, 2, 100), 9);
        states(x, "at once", 0, 0, 16, 0);
    }

    private static void serveWithoutCounters() {
        sentence("17: without counters 2 to 4 and EVENTS 64 to 68");
        FieldLine x = line();
        x.busy(0, 1);
        refused(x, 0, 6, 17);
        refused(x, 0, 1, 99);
        refused(x, 0, 2, 1, 0, 0, 0, 1);
        served(x, 0, bytes(17), 17, 2, 0, 255);
        load(x, 8, 0, 4, 0, 0);
        x.serve(0);
        counters(x, 0, "served", 0, 0, 1, 0, 2, 0, 3, 0, 4, 0, 6, 1, 8, 2, 12, 0);
        events(x, 0, "served", 4);
    }

    private static void answerBytes() {
        sentence("18: byte k of the ANSWER; NONE without one");
        FieldLine x = line();
        due("none yet", x.answer(0), NONE);
        load(x, 17);
        x.serve(0);
        due("answer(0)", x.answer(0), 17);
        due("answer(3)", x.answer(3), 255);
        due("answer(4)", x.answer(4), NONE);
        due("answer(-1)", x.answer(-1), NONE);
        due("answer(least)", x.answer(Integer.MIN_VALUE), NONE);
        due("answer(greatest)", x.answer(Integer.MAX_VALUE), NONE);
        load(x, join(bytes(8, 0, 0), repeat(77, 250)));
        x.serve(0);
        due("answer(252)", x.answer(252), 77);
        due("answer(253)", x.answer(253), NONE);
    }

    private static void answerIsReplaced() {
        sentence("17: the ANSWER is what comes");
        FieldLine x = line();
        served(x, 0, bytes(17), 17, 2, 0, 255);
        refused(x, 0, 1, 99);
        due("no byte of the former one", x.answer(2), NONE);
    }

    private static void refusals() {
        unknownFunctions();
        lowestEightBits();
        busyFirst();
        countsWhatIsDone();
    }

    private static void unknownFunctions() {
        sentence("Terms 3: 1: F is none told here");
        int[] told = {1, 2, 3, 4, 5, 6, 7, 8, 11, 12, 15, 16, 17, 20, 21, 22, 23, 24, 43};
        for (int f = 0; f < 256; f++) {
            boolean known = java.util.Arrays.binarySearch(told, f) >= 0;
            // No function is served with a byte alone behind it; of 43 that byte would have to be 14.
            refused(line(), 0, known && f != 43 ? 3 : 1, f, 0);
        }
        FieldLine y = line();
        int[] others = {0, 9, 10, 13, 14, 18, 19, 25, 42, 44, 99, 129, 255};
        for (int f : others) {
            refused(y, 0, 1, f);
            refused(y, 0, 1, f, 0, 100, 0, 1);
        }
    }

    private static void lowestEightBits() {
        sentence("Terms 3: the lowest 8 bits of F + 128");
        FieldLine x = line();
        served(x, 0, bytes(0), 128, 1);
        served(x, 0, bytes(1), 129, 3);
        served(x, 0, bytes(127), 255, 1);
        served(x, 0, bytes(128), 0, 1);
        served(x, 0, bytes(255), 127, 1);
    }

    private static void busyFirst() {
        sentence("Terms 3: 6: the device is BUSY, ahead of all others; nothing is changed but what is told");
        FieldLine x = line();
        x.busy(0, 4);
        refused(x, 0, 6, 99);
        refused(x, 0, 6, 1, 0, 100, 0, 0);
        refused(x, 0, 6, 5, 0, 0, 0, 0);
        refused(x, 0, 6, 5, 0, 100, 255, 0);
        due("the coil", x.get(0, 0, 100), 0);
        counters(x, 0, "busy once less each", 11, 0, 6, 4, 8, 0);
        echoed(x, 0, 5, 0, 100, 255, 0);
    }

    private static void countsWhatIsDone() {
        sentence("Terms 3: what is done without a refusal: counter 8 is one more, but for 11 and 12");
        FieldLine x = line();
        x.file(0, 1, 1);
        x.queue(0, 1);
        name(x, 0, 0, 65);
        int[][] done = {{1, 0, 100, 0, 1}, {2, 0, 100, 0, 1}, {3, 0, 100, 0, 1}, {4, 0, 100, 0, 1},
            {5, 0, 100, 0, 0}, {6, 0, 100, 0, 0}, {7}, {8, 0, 0}, {8, 0, 2, 0, 0}, {8, 0, 4, 0, 0}, {8, 0, 11, 0, 0},
            {8, 0, 20, 0, 0}, {15, 0, 100, 0, 1, 1, 1}, {16, 0, 100, 0, 1, 2, 0, 1}, {17}, {20, 7, 6, 0, 1, 0, 0, 0, 1},
            {21, 9, 6, 0, 1, 0, 0, 0, 1, 0, 1}, {22, 0, 100, 0, 0, 0, 0}, {23, 0, 100, 0, 1, 0, 100, 0, 1, 2, 0, 1},
            {24, 0, 1}, {43, 14, 1, 0}};
        for (int i = 0; i < done.length; i++) {
            load(x, done[i]);
            x.serve(0);
            counters(x, 0, "function " + done[i][0], 8, i + 1);
        }
        load(x, 11);
        x.serve(0);
        load(x, 12);
        x.serve(0);
        counters(x, 0, "11 and 12", 8, done.length);
    }

    private static void readBits() {
        for (int f = 1; f <= 2; f++) {
            readBitsFirstLowest(f);
            readBitsWhole(f);
            readBitsHowMany(f);
            readBitsPlaces(f);
            readBitsMost(f);
        }
    }

    private static void readBitsFirstLowest(int f) {
        sentence("Terms 3: 1, 2: how many bytes, bits, the first one lowest; unused ones 0");
        FieldLine x = line();
        int[] ones = {100, 107, 109, 110};
        for (int at : ones) {
            x.put(0, f - 1, at, 1);
        }
        x.put(0, 2 - f, 101, 1);
        served(x, 0, bytes(f, 0, 100, 0, 1), f, 1, 1);
        served(x, 0, bytes(f, 0, 100, 0, 7), f, 1, 1);
        served(x, 0, bytes(f, 0, 100, 0, 8), f, 1, 129);
        served(x, 0, bytes(f, 0, 100, 0, 9), f, 2, 129, 0);
        served(x, 0, bytes(f, 0, 100, 0, 10), f, 2, 129, 2);
        served(x, 0, bytes(f, 0, 100, 0, 16), f, 2, 129, 6);
        served(x, 0, bytes(f, 0, 107, 0, 13), f, 2, 13, 0);
        for (int at = 100; at < 120; at++) {
            x.put(0, f - 1, at, 1);
        }
        served(x, 0, bytes(f, 0, 100, 0, 19), f, 3, 255, 255, 7);
        served(x, 0, bytes(f, 0, 101, 0, 3), f, 1, 7);
    }

    private static void readBitsWhole(int f) {
        sentence("Terms 3: 1, 2: from, n (L)");
        FieldLine x = line();
        onlyWhole(x, f, 0, 100, 0, 1);
        onlyWhole(x, f, 0, 0, 0, 1);
    }

    private static void readBitsHowMany(int f) {
        sentence("Terms 3: 1, 2: n 1 to 2000, else 3");
        FieldLine x = line();
        refused(x, 0, 3, f, 0, 100, 0, 0);
        refused(x, 0, 3, f, 0, 0, 0, 0);
        refused(x, 0, 3, f, 0, 100, 7, 209);
        refused(x, 0, 3, f, 0, 100, 255, 255);
        refused(x, 0, 2, f, 0, 100, 7, 208);
        served(x, 0, bytes(f, 0, 100, 0, 1), f, 1, 0);
    }

    private static void readBitsPlaces(int f) {
        sentence("Terms 3: 1, 2: all n places are there, else 2");
        FieldLine x = line();
        refused(x, 0, 2, f, 0, 99, 0, 1);
        refused(x, 0, 2, f, 0, 99, 0, 21);
        refused(x, 0, 2, f, 0, 120, 0, 1);
        refused(x, 0, 2, f, 0, 100, 0, 21);
        refused(x, 0, 2, f, 0, 119, 0, 2);
        refused(x, 1, 2, f, 0, 0, 0, 1);
        served(x, 0, bytes(f, 0, 100, 0, 20), f, 3, 0, 0, 0);
        served(x, 0, bytes(f, 0, 119, 0, 1), f, 1, 0);
        x.bank(0, f - 1, 65534, 2);
        x.put(0, f - 1, 65535, 1);
        refused(x, 0, 2, f, 255, 255, 0, 2);
        refused(x, 0, 2, f, 255, 255, 7, 208);
        served(x, 0, bytes(f, 255, 254, 0, 2), f, 1, 2);
        x.bank(0, f - 1, 65534, 0);
        refused(x, 0, 2, f, 255, 254, 0, 1);
    }

    private static void readBitsMost(int f) {
        sentence("Terms 3: 1, 2: all of a bank of 400");
        FieldLine x = line();
        x.bank(0, f - 1, 0, 400);
        x.put(0, f - 1, 399, 1);
        served(x, 0, bytes(f, 0, 0, 1, 144), join(bytes(f, 50), repeat(0, 49), bytes(128)));
        refused(x, 0, 2, f, 0, 0, 1, 145);
    }

    private static void readWords() {
        for (int f = 3; f <= 4; f++) {
            readWordsHigherFirst(f);
            readWordsWhole(f);
            readWordsHowMany(f);
            readWordsPlaces(f);
        }
    }

    private static void readWordsHigherFirst(int f) {
        sentence("Terms 1: NUMBERS of two bytes go the higher byte first");
        FieldLine x = line();
        x.put(0, f - 1, 117, 65535);
        x.put(0, f - 1, 118, 7);
        x.put(0, f - 1, 119, 0xABCD);
        x.put(0, 6 - f, 118, 9);
        served(x, 0, bytes(f, 0, 117, 0, 3), f, 6, 255, 255, 0, 7, 0xAB, 0xCD);
    }

    private static void readWordsWhole(int f) {
        sentence("Terms 3: 3, 4: likewise (L)");
        onlyWhole(line(), f, 0, 100, 0, 1);
    }

    private static void readWordsHowMany(int f) {
        sentence("Terms 3: 3, 4: n 1 to 125");
        FieldLine x = line();
        refused(x, 0, 3, f, 0, 100, 0, 0);
        refused(x, 0, 3, f, 0, 100, 0, 126);
        refused(x, 0, 3, f, 0, 0, 1, 1);
        refused(x, 0, 2, f, 0, 100, 0, 125);
        x.bank(0, f - 1, 0, 125);
        x.put(0, f - 1, 124, 258);
        served(x, 0, bytes(f, 0, 0, 0, 125), join(bytes(f, 250), repeat(0, 248), bytes(1, 2)));
    }

    private static void readWordsPlaces(int f) {
        sentence("Terms 3: 3, 4: all n places are there, else 2");
        FieldLine x = line();
        refused(x, 0, 2, f, 0, 99, 0, 1);
        refused(x, 0, 2, f, 0, 120, 0, 1);
        refused(x, 0, 2, f, 0, 118, 0, 3);
        refused(x, 1, 2, f, 0, 100, 0, 1);
        x.bank(0, f - 1, 65535, 1);
        refused(x, 0, 2, f, 255, 255, 0, 2);
        served(x, 0, bytes(f, 255, 255, 0, 1), f, 2, 0, 0);
    }

    private static void writeCoil() {
        coilIsSet();
        coilWhole();
        coilValues();
        coilPlaces();
    }

    private static void coilIsSet() {
        sentence("Terms 3: 5: the COIL is 0 or 1; the same again");
        FieldLine x = line();
        echoed(x, 0, 5, 0, 100, 255, 0);
        due("the first coil", x.get(0, 0, 100), 1);
        echoed(x, 0, 5, 0, 119, 255, 0);
        due("the last coil", x.get(0, 0, 119), 1);
        echoed(x, 0, 5, 0, 100, 0, 0);
        due("the first coil", x.get(0, 0, 100), 0);
        due("the one behind", x.get(0, 0, 101), 0);
    }

    private static void coilWhole() {
        sentence("Terms 3: 5: at, value (L)");
        FieldLine x = line();
        onlyWhole(x, 5, 0, 103, 255, 0);
        onlyWhole(x, 5, 0, 99, 255, 1);
        due("the coil", x.get(0, 0, 103), 0);
    }

    private static void coilValues() {
        sentence("Terms 3: 5: 3: neither 0 nor 65280");
        FieldLine x = line();
        x.put(0, 0, 103, 1);
        int[][] wrong = {{0, 1}, {255, 1}, {254, 255}, {255, 255}, {1, 0}};
        for (int[] v : wrong) {
            refused(x, 0, 3, 5, 0, 103, v[0], v[1]);
            refused(x, 0, 3, 5, 0, 99, v[0], v[1]);
        }
        due("the coil", x.get(0, 0, 103), 1);
    }

    private static void coilPlaces() {
        sentence("Terms 3: 5: 2");
        FieldLine x = line();
        refused(x, 0, 2, 5, 0, 99, 255, 0);
        refused(x, 0, 2, 5, 0, 120, 0, 0);
        refused(x, 1, 2, 5, 0, 0, 0, 0);
    }

    private static void writeRegister() {
        registerIsSet();
        registerWhole();
        registerPlaces();
        registerLimits();
    }

    private static void registerIsSet() {
        sentence("Terms 3: 6: the same again");
        FieldLine x = line();
        echoed(x, 0, 6, 0, 100, 255, 255);
        echoed(x, 0, 6, 0, 119, 18, 52);
        due("the first one", x.get(0, 2, 100), 65535);
        due("the last one", x.get(0, 2, 119), 0x1234);
        echoed(x, 0, 6, 0, 100, 0, 0);
        due("the first one", x.get(0, 2, 100), 0);
    }

    private static void registerWhole() {
        sentence("Terms 3: 6: at, value (L)");
        FieldLine x = line();
        onlyWhole(x, 6, 0, 103, 255, 0);
        onlyWhole(x, 6, 0, 99, 255, 0);
        due("the register", x.get(0, 2, 103), 0);
    }

    private static void registerPlaces() {
        sentence("Terms 3: 6: 2 ahead of 3: LIMITS");
        FieldLine x = line();
        x.limit(0, 0, 65536, 5, 10);
        refused(x, 0, 2, 6, 0, 99, 0, 4);
        refused(x, 0, 2, 6, 0, 120, 0, 4);
        refused(x, 1, 2, 6, 0, 100, 0, 4);
    }

    private static void registerLimits() {
        sentence("Terms 3: 6: 3: LIMITS");
        FieldLine x = line();
        x.put(0, 2, 103, 77);
        x.limit(0, 103, 1, 5, 10);
        refused(x, 0, 3, 6, 0, 103, 0, 4);
        refused(x, 0, 3, 6, 0, 103, 0, 11);
        due("the register", x.get(0, 2, 103), 77);
        echoed(x, 0, 6, 0, 103, 0, 5);
        echoed(x, 0, 6, 0, 103, 0, 10);
        due("the register", x.get(0, 2, 103), 10);
    }

    private static void firstCoils() {
        sentence("Terms 3: 7: the first eight COILS of the bank, bits as ever (those that aren't there 0)");
        FieldLine x = line();
        int[] ones = {100, 101, 107, 108};
        for (int at : ones) {
            x.put(0, 0, at, 1);
        }
        served(x, 0, bytes(7), 7, 131);
        x.bank(0, 0, 65529, 7);
        x.put(0, 0, 65535, 1);
        served(x, 0, bytes(7), 7, 64);
        x.bank(0, 0, 65535, 1);
        x.put(0, 0, 65535, 1);
        served(x, 0, bytes(7), 7, 1);
        x.bank(0, 0, 65535, 0);
        served(x, 0, bytes(7), 7, 0);
        served(x, 1, bytes(7), 7, 0);
        sentence("Terms 3: 7: (L)");
        onlyWhole(x, 7);
    }

    private static void writeCoils() {
        coilsAreSet();
        coilsTooShort();
        coilsHowMany();
        coilsByteCount();
        coilsPlaces();
    }

    private static void coilsAreSet() {
        sentence("Terms 3: 15: COILS; 15, from, n");
        FieldLine x = line();
        int[] ones = {100, 102, 111};
        for (int at : ones) {
            x.put(0, 0, at, 1);
        }
        served(x, 0, bytes(15, 0, 101, 0, 10, 2, 0x85, 0x02), 15, 0, 101, 0, 10);
        int[] want = {1, 1, 0, 1, 0, 0, 0, 0, 1, 0, 1, 1};
        for (int i = 0; i < want.length; i++) {
            due("coil " + (100 + i), x.get(0, 0, 100 + i), want[i]);
        }
        served(x, 0, bytes(15, 0, 113, 0, 3, 1, 255), 15, 0, 113, 0, 3);
        due("the coil ahead of these", x.get(0, 0, 112), 0);
        due("the coil behind these", x.get(0, 0, 116), 0);
        served(x, 0, bytes(15, 0, 119, 0, 1, 1, 255), 15, 0, 119, 0, 1);
        due("the last coil", x.get(0, 0, 119), 1);
        served(x, 0, bytes(15, 0, 100, 0, 20, 3, 255, 255, 255), 15, 0, 100, 0, 20);
        due("the first coil", x.get(0, 0, 100), 1);
        x.bank(0, 0, 0, 400);
        served(x, 0, join(bytes(15, 0, 0, 1, 144, 50), repeat(255, 50)), 15, 0, 0, 1, 144);
        due("the 400th coil", x.get(0, 0, 399), 1);
    }

    private static void coilsTooShort() {
        sentence("Terms 3: 15: L: fewer than 5 behind F");
        FieldLine x = line();
        int[] pdu = {15, 0, 101, 0, 8, 1};
        for (int n = 1; n <= 5; n++) {
            refused(x, 0, 3, java.util.Arrays.copyOf(pdu, n));
        }
    }

    private static void coilsHowMany() {
        sentence("Terms 3: 15: 3: n not 1 to 1968");
        FieldLine x = line();
        refused(x, 0, 3, 15, 0, 101, 0, 0, 0);
        refused(x, 0, 3, join(bytes(15, 0, 100, 7, 177, 247), repeat(0, 247)));
        refused(x, 0, 2, join(bytes(15, 0, 100, 7, 176, 246), repeat(0, 246)));
        refused(x, 0, 3, 15, 0, 0, 8, 0, 0);
    }

    private static void coilsByteCount() {
        sentence("Terms 3: 15: 3: b not (n + 7) / 8, not b bytes");
        FieldLine x = line();
        refused(x, 0, 3, 15, 0, 101, 0, 8, 2, 1, 1);
        refused(x, 0, 3, 15, 0, 101, 0, 9, 1, 1);
        refused(x, 0, 3, 15, 0, 101, 0, 8, 0);
        refused(x, 0, 3, 15, 0, 101, 0, 8, 1);
        refused(x, 0, 3, 15, 0, 101, 0, 8, 1, 1, 1);
        refused(x, 0, 3, 15, 0, 0, 0, 9, 2, 1);
        due("the coil", x.get(0, 0, 101), 0);
    }

    private static void coilsPlaces() {
        sentence("Terms 3: 15: 2");
        FieldLine x = line();
        refused(x, 0, 2, 15, 0, 113, 0, 8, 1, 255);
        refused(x, 0, 2, 15, 0, 99, 0, 8, 1, 255);
        refused(x, 1, 2, 15, 0, 0, 0, 1, 1, 1);
        due("none is written", x.get(0, 0, 113) + x.get(0, 0, 100), 0);
        served(x, 0, bytes(15, 0, 112, 0, 8, 1, 255), 15, 0, 112, 0, 8);
    }

    private static void writeRegisters() {
        registersAreSet();
        registersTooShort();
        registersHowMany();
        registersByteCount();
        registersPlaces();
        registersLimits();
    }

    private static void registersAreSet() {
        sentence("Terms 3: 16: 16, from, n");
        FieldLine x = line();
        x.put(0, 2, 102, 9);
        served(x, 0, bytes(16, 0, 100, 0, 2, 4, 255, 255, 1, 2), 16, 0, 100, 0, 2);
        due("the first", x.get(0, 2, 100), 65535);
        due("the second", x.get(0, 2, 101), 258);
        due("the one behind stays", x.get(0, 2, 102), 9);
        served(x, 0, bytes(16, 0, 119, 0, 1, 2, 3, 4), 16, 0, 119, 0, 1);
        due("the last", x.get(0, 2, 119), 772);
        x.bank(0, 2, 0, 123);
        served(x, 0, join(bytes(16, 0, 0, 0, 123, 246), repeat(1, 246)), 16, 0, 0, 0, 123);
        due("the 123rd", x.get(0, 2, 122), 257);
    }

    private static void registersTooShort() {
        sentence("Terms 3: 16: L likewise");
        FieldLine x = line();
        int[] pdu = {16, 0, 101, 0, 1, 2};
        for (int n = 1; n <= 5; n++) {
            refused(x, 0, 3, java.util.Arrays.copyOf(pdu, n));
        }
    }

    private static void registersHowMany() {
        sentence("Terms 3: 16: 3: n not 1 to 123");
        FieldLine x = line();
        refused(x, 0, 3, 16, 0, 118, 0, 0, 0);
        refused(x, 0, 2, join(bytes(16, 0, 100, 0, 123, 246), repeat(0, 246)));
        refused(x, 0, 3, join(bytes(16, 0, 100, 0, 124, 248), repeat(0, 247)));
        refused(x, 0, 3, 16, 0, 0, 0, 128, 0);
    }

    private static void registersByteCount() {
        sentence("Terms 3: 16: 3: b not 2 n, not b bytes");
        FieldLine x = line();
        refused(x, 0, 3, 16, 0, 117, 0, 2, 3, 1, 2, 3);
        refused(x, 0, 3, 16, 0, 117, 0, 2, 5, 1, 2, 3, 4, 5);
        refused(x, 0, 3, 16, 0, 117, 0, 2, 4, 1, 2, 3);
        refused(x, 0, 3, 16, 0, 117, 0, 2, 4, 1, 2, 3, 4, 5);
        refused(x, 0, 3, 16, 0, 0, 0, 2, 4);
        due("the register", x.get(0, 2, 117), 0);
    }

    private static void registersPlaces() {
        sentence("Terms 3: 16: 2 ahead of LIMITS");
        FieldLine x = line();
        x.limit(0, 0, 65536, 5, 5);
        refused(x, 0, 2, 16, 0, 119, 0, 2, 4, 1, 2, 3, 4);
        refused(x, 0, 2, 16, 0, 99, 0, 2, 4, 1, 2, 3, 4);
        refused(x, 1, 2, 16, 0, 0, 0, 1, 2, 1, 2);
    }

    private static void registersLimits() {
        sentence("Terms 3: 16: 3: LIMITS, none is written");
        FieldLine x = line();
        x.put(0, 2, 117, 77);
        x.limit(0, 118, 1, 5, 9);
        refused(x, 0, 3, 16, 0, 117, 0, 2, 4, 0, 1, 0, 10);
        refused(x, 0, 3, 16, 0, 117, 0, 2, 4, 0, 1, 0, 4);
        due("none is written", x.get(0, 2, 117), 77);
        served(x, 0, bytes(16, 0, 117, 0, 3, 6, 9, 9, 0, 9, 9, 9), 16, 0, 117, 0, 3);
        due("within the limit", x.get(0, 2, 118), 9);
        int[] outside = {4, 10};
        for (int v : outside) {
            refused(x, 0, 3, 16, 0, 118, 0, 2, 4, 0, v, 0, 5);
            refused(x, 0, 3, 16, 0, 118, 0, 1, 2, 0, v);
            refused(x, 0, 3, 16, 0, 116, 0, 3, 6, 0, 5, 0, 5, 0, v);
        }
        due("none is written", x.get(0, 2, 119), 2313);
        served(x, 0, bytes(16, 0, 119, 0, 1, 2, 0, 1), 16, 0, 119, 0, 1);
        served(x, 0, bytes(16, 0, 116, 0, 2, 4, 0, 1, 0, 99), 16, 0, 116, 0, 2);
    }

    private static void mask() {
        maskBits();
        maskWhole();
        maskPlaces();
        maskLimits();
    }

    private static void maskBits() {
        sentence("Terms 3: 22: itself AND and, OR or without and's bits; the same again");
        FieldLine x = line();
        x.put(0, 2, 100, 0x12);
        echoed(x, 0, 22, 0, 100, 0, 0xF2, 0, 0x25);
        due("masked", x.get(0, 2, 100), 0x17);
        x.put(0, 2, 119, 0xF00F);
        echoed(x, 0, 22, 0, 119, 255, 255, 9, 9);
        due("all bits stay", x.get(0, 2, 119), 0xF00F);
        echoed(x, 0, 22, 0, 119, 0, 0, 255, 255);
        due("all bits are told", x.get(0, 2, 119), 65535);
        echoed(x, 0, 22, 0, 119, 0, 0, 0, 0);
        due("no bits are told", x.get(0, 2, 119), 0);
    }

    private static void maskWhole() {
        sentence("Terms 3: 22: at, and, or (L)");
        FieldLine x = line();
        onlyWhole(x, 22, 0, 104, 0, 0, 0, 1);
        onlyWhole(x, 22, 0, 99, 0, 0, 0, 1);
        due("the register", x.get(0, 2, 104), 0);
    }

    private static void maskPlaces() {
        sentence("Terms 3: 22: 2 ahead of 3: LIMITS");
        FieldLine x = line();
        x.limit(0, 0, 65536, 5, 5);
        refused(x, 0, 2, 22, 0, 99, 0, 0, 0, 0);
        refused(x, 0, 2, 22, 0, 120, 0, 0, 0, 0);
        refused(x, 1, 2, 22, 0, 100, 0, 0, 0, 0);
    }

    private static void maskLimits() {
        sentence("Terms 3: 22: 3: LIMITS");
        FieldLine x = line();
        x.put(0, 2, 104, 0x17);
        x.limit(0, 104, 1, 0x16, 0x18);
        refused(x, 0, 3, 22, 0, 104, 0, 0, 0, 0x15);
        refused(x, 0, 3, 22, 0, 104, 0, 0, 0, 0x19);
        due("the register", x.get(0, 2, 104), 0x17);
        echoed(x, 0, 22, 0, 104, 0, 0, 0, 0x16);
        echoed(x, 0, 22, 0, 104, 0, 0, 0, 0x18);
        echoed(x, 0, 22, 0, 104, 0, 255, 0, 255 - 0x18);
        refused(x, 0, 3, 22, 0, 104, 0, 255, 1, 0);
        due("the register", x.get(0, 2, 104), 0x18);
    }

    private static void readAndWrite() {
        bothInOrder();
        bothTooShort();
        bothHowMany();
        bothByteCount();
        bothPlaces();
        bothLimits();
    }

    private static void bothInOrder() {
        sentence("Terms 3: 23: the m REGISTERS are written, then n read: 23, bytes, values");
        FieldLine x = line();
        x.put(0, 2, 100, 1);
        x.put(0, 2, 103, 8);
        served(x, 0, bytes(23, 0, 100, 0, 3, 0, 101, 0, 2, 4, 0, 2, 255, 255), 23, 6, 0, 1, 0, 2, 255, 255);
        due("the register behind stays", x.get(0, 2, 103), 8);
        served(x, 0, bytes(23, 0, 119, 0, 1, 0, 119, 0, 1, 2, 7, 7), 23, 2, 7, 7);
        x.bank(0, 2, 0, 125);
        served(x, 0, join(bytes(23, 0, 0, 0, 125, 0, 4, 0, 121, 242), repeat(1, 242)),
                join(bytes(23, 250), repeat(0, 8), repeat(1, 242)));
    }

    private static void bothTooShort() {
        sentence("Terms 3: 23: L: fewer than 9 behind F");
        FieldLine x = line();
        int[] pdu = {23, 0, 100, 0, 1, 0, 101, 0, 1, 2};
        for (int n = 1; n <= 9; n++) {
            refused(x, 0, 3, java.util.Arrays.copyOf(pdu, n));
        }
    }

    private static void bothHowMany() {
        sentence("Terms 3: 23: 3: n not 1 to 125, m not 1 to 121");
        FieldLine x = line();
        refused(x, 0, 3, 23, 0, 100, 0, 0, 0, 101, 0, 1, 2, 0, 2);
        refused(x, 0, 3, 23, 0, 100, 0, 126, 0, 101, 0, 1, 2, 0, 2);
        refused(x, 0, 2, 23, 0, 100, 0, 125, 0, 101, 0, 1, 2, 0, 2);
        refused(x, 0, 3, 23, 0, 100, 0, 1, 0, 101, 0, 0, 0);
        refused(x, 0, 2, join(bytes(23, 0, 100, 0, 3, 0, 100, 0, 121, 242), repeat(0, 242)));
        refused(x, 0, 3, join(bytes(23, 0, 100, 0, 3, 0, 100, 0, 122, 244), repeat(0, 243)));
        refused(x, 0, 3, 23, 0, 100, 0, 1, 0, 101, 0, 128, 0);
    }

    private static void bothByteCount() {
        sentence("Terms 3: 23: 3: b not 2 m, not b bytes");
        FieldLine x = line();
        refused(x, 0, 3, 23, 0, 100, 0, 3, 0, 101, 0, 2, 3, 0, 2, 0);
        refused(x, 0, 3, 23, 0, 100, 0, 3, 0, 101, 0, 2, 5, 0, 2, 0, 3, 0);
        refused(x, 0, 3, 23, 0, 100, 0, 3, 0, 101, 0, 2, 4, 0, 2, 0);
        refused(x, 0, 3, 23, 0, 100, 0, 3, 0, 101, 0, 2, 4, 0, 2, 0, 3, 0);
        refused(x, 0, 3, 23, 0, 0, 0, 3, 0, 0, 0, 2, 4);
        due("the register", x.get(0, 2, 101), 0);
    }

    private static void bothPlaces() {
        sentence("Terms 3: 23: 2: one of the n places, one of the m");
        FieldLine x = line();
        x.limit(0, 0, 65536, 5, 5);
        refused(x, 0, 2, 23, 0, 118, 0, 3, 0, 101, 0, 1, 2, 0, 5);
        refused(x, 0, 2, 23, 0, 99, 0, 1, 0, 101, 0, 1, 2, 0, 5);
        refused(x, 0, 2, 23, 0, 100, 0, 1, 0, 119, 0, 2, 4, 0, 5, 0, 5);
        refused(x, 0, 2, 23, 0, 100, 0, 1, 0, 99, 0, 1, 2, 0, 9);
        refused(x, 0, 2, 23, 0, 118, 0, 3, 0, 101, 0, 1, 2, 0, 9);
        refused(x, 0, 2, 23, 0, 100, 0, 1, 0, 119, 0, 2, 4, 0, 9, 0, 5);
        due("none is written", x.get(0, 2, 101) + x.get(0, 2, 119), 0);
    }

    private static void bothLimits() {
        sentence("Terms 3: 23: 3: LIMITS");
        FieldLine x = line();
        x.limit(0, 102, 1, 3, 5);
        refused(x, 0, 3, 23, 0, 100, 0, 1, 0, 101, 0, 2, 4, 0, 9, 0, 6);
        refused(x, 0, 3, 23, 0, 100, 0, 1, 0, 101, 0, 2, 4, 0, 9, 0, 2);
        due("none is written", x.get(0, 2, 101), 0);
        served(x, 0, bytes(23, 0, 101, 0, 2, 0, 101, 0, 2, 4, 0, 9, 0, 5), 23, 4, 0, 9, 0, 5);
        int[] outside = {2, 6};
        for (int v : outside) {
            refused(x, 0, 3, 23, 0, 100, 0, 1, 0, 102, 0, 2, 4, 0, v, 0, 4);
            refused(x, 0, 3, 23, 0, 100, 0, 1, 0, 102, 0, 1, 2, 0, v);
            refused(x, 0, 3, 23, 0, 100, 0, 1, 0, 100, 0, 3, 6, 0, 4, 0, 4, 0, v);
        }
        due("none is written", x.get(0, 2, 103), 0);
        served(x, 0, bytes(23, 0, 102, 0, 2, 0, 103, 0, 1, 2, 0, 1), 23, 4, 0, 5, 0, 1);
        served(x, 0, bytes(23, 0, 102, 0, 1, 0, 100, 0, 2, 4, 0, 1, 0, 99), 23, 2, 0, 5);
    }
}
