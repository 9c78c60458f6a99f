/** Promises 5 to 14 and 16: what a device is and what it keeps. */
public final class DevicesTest extends Check {
    private static final int LEAST = Integer.MIN_VALUE;
    private static final int GREATEST = Integer.MAX_VALUE;

    public static void main(String[] args) {
        devices();
        banks();
        putAndGet();
        limits();
        files();
        queues();
        texts();
        busy();
        end("DevicesTest");
    }

    private static FieldLine withDevice() {
        FieldLine x = new FieldLine();
        x.device(7, 0);
        return x;
    }

    private static void devices() {
        deviceNumbers();
        sixDevices();
        deviceAddress();
        deviceAddressOfAnother();
        deviceLag();
    }

    private static void deviceNumbers() {
        sentence("5: a new device: its number");
        FieldLine x = new FieldLine();
        for (int i = 0; i < 6; i++) {
            due("state(12)", x.state(12), i);
            due("device " + i, x.device(10 + i, i), i);
            due("its address", x.counter(i, 16), 10 + i);
        }
    }

    private static void sixDevices() {
        sentence("5: NONE: there are six");
        FieldLine x = new FieldLine();
        for (int i = 0; i < 5; i++) {
            x.device(10 + i, 0);
        }
        due("the sixth", x.device(20, 0), 5);
        due("a seventh", x.device(21, 0), NONE);
        due("state(12)", x.state(12), 6);
        due("counter(6, 16)", x.counter(6, 16), NONE);
    }

    private static void deviceAddress() {
        sentence("5: NONE: the address is not 1 to 247");
        FieldLine x = new FieldLine();
        int[] wrong = {0, 248, -1, 257, LEAST, GREATEST};
        for (int address : wrong) {
            due("address " + address, x.device(address, 0), NONE);
        }
        due("state(12)", x.state(12), 0);
        due("address 1", x.device(1, 0), 0);
        due("address 247", x.device(247, 0), 1);
    }

    private static void deviceAddressOfAnother() {
        sentence("5: NONE: the address is another one's");
        FieldLine x = new FieldLine();
        x.device(1, 0);
        x.device(2, 0);
        x.device(3, 0);
        due("the first one's", x.device(1, 5), NONE);
        due("the last one's", x.device(3, 5), NONE);
        due("nobody's", x.device(4, 5), 3);
    }

    private static void deviceLag() {
        sentence("5: NONE: LAG not 0 to 2000");
        FieldLine x = new FieldLine();
        int[] wrong = {-1, 2001, LEAST, GREATEST};
        for (int lag : wrong) {
            due("lag " + lag, x.device(1, lag), NONE);
        }
        due("lag 0", x.device(1, 0), 0);
        due("lag 2000", x.device(2, 2000), 1);
        request(x, 2, 17);
        x.tick(30);
        counters(x, 1, "a reply", 13, 2000);
    }

    private static void banks() {
        bankNoneAtFirst();
        bankPlaces();
        bankMadeAnew();
        bankWithoutDevice();
        bankKind();
        bankFrom();
        bankSize();
        bankBeyondTheLastPlace();
    }

    private static void bankNoneAtFirst() {
        sentence("Terms 2: BANKS, each of some places (none at first)");
        FieldLine x = withDevice();
        for (int kind = 0; kind < 4; kind++) {
            due("get, kind " + kind, x.get(0, kind, 0), NONE);
            due("put, kind " + kind, x.put(0, kind, 0, 1), false);
        }
    }

    private static void bankPlaces() {
        sentence("6: n places (0 to 400) from one on, all 0");
        FieldLine x = withDevice();
        for (int kind = 0; kind < 4; kind++) {
            due("bank", x.bank(0, kind, 1000 * kind + 5, 400), true);
            for (int at = 5; at < 405; at += 57) {
                due("place " + at, x.get(0, kind, 1000 * kind + at), 0);
            }
            due("the first", x.get(0, kind, 1000 * kind + 5), 0);
            due("the last", x.get(0, kind, 1000 * kind + 404), 0);
            due("the one ahead", x.get(0, kind, 1000 * kind + 4), NONE);
            due("the one behind", x.get(0, kind, 1000 * kind + 405), NONE);
        }
        due("the first bank stays", x.get(0, 0, 5), 0);
        due("no places", x.bank(0, 0, 5, 0), true);
        due("none is there", x.get(0, 0, 5), NONE);
        due("nor ahead", x.get(0, 0, 4), NONE);
    }

    private static void bankMadeAnew() {
        sentence("6: a device's bank is made anew, all 0");
        FieldLine x = withDevice();
        x.bank(0, 2, 10, 5);
        for (int at = 10; at < 15; at++) {
            x.put(0, 2, at, 9);
        }
        due("bank", x.bank(0, 2, 9, 4), true);
        for (int at = 9; at < 13; at++) {
            due("place " + at, x.get(0, 2, at), 0);
        }
        due("a place of the former one", x.get(0, 2, 13), NONE);
        x.bank(0, 2, 10, 5);
        due("a place of the one ahead", x.get(0, 2, 14), 0);
    }

    private static void bankWithoutDevice() {
        sentence("6: false: no such device");
        FieldLine x = withDevice();
        due("device 1", x.bank(1, 0, 0, 1), false);
        due("device -1", x.bank(-1, 0, 0, 1), false);
        due("device 6", x.bank(6, 0, 0, 1), false);
        due("device least", x.bank(LEAST, 0, 0, 1), false);
        due("device greatest", x.bank(GREATEST, 0, 0, 1), false);
    }

    private static void bankKind() {
        sentence("6: false: no such kind");
        FieldLine x = withDevice();
        due("kind -1", x.bank(0, -1, 0, 1), false);
        due("kind 4", x.bank(0, 4, 0, 1), false);
        due("kind 0", x.bank(0, 0, 0, 1), true);
        due("kind 3", x.bank(0, 3, 0, 1), true);
    }

    private static void bankFrom() {
        sentence("6: false: from is not 0 to 65535");
        FieldLine x = withDevice();
        int[] wrong = {-1, 65536, LEAST, GREATEST};
        for (int from : wrong) {
            due("from " + from, x.bank(0, 2, from, 0), false);
            due("from " + from, x.bank(0, 2, from, 2), false);
        }
        due("from 0", x.bank(0, 2, 0, 1), true);
        due("from 65535", x.bank(0, 2, 65535, 0), true);
    }

    private static void bankSize() {
        sentence("6: false: n is not 0 to 400");
        FieldLine x = withDevice();
        x.bank(0, 2, 7, 3);
        int[] wrong = {-1, 401, LEAST, GREATEST};
        for (int n : wrong) {
            due("n " + n, x.bank(0, 2, 0, n), false);
        }
        due("the bank stays", x.get(0, 2, 9), 0);
        due("n 400", x.bank(0, 2, 0, 400), true);
        due("n 0", x.bank(0, 2, 0, 0), true);
    }

    private static void bankBeyondTheLastPlace() {
        sentence("6: false: a place would be beyond 65535");
        FieldLine x = withDevice();
        due("two from 65535", x.bank(0, 2, 65535, 2), false);
        due("400 from 65137", x.bank(0, 2, 65137, 400), false);
        due("one from 65535", x.bank(0, 2, 65535, 1), true);
        due("the last place", x.get(0, 2, 65535), 0);
        due("none behind it", x.get(0, 2, 65536), NONE);
        due("400 from 65136", x.bank(0, 2, 65136, 400), true);
        due("the last place", x.get(0, 2, 65535), 0);
    }

    private static void putAndGet() {
        putBits();
        putWords();
        putWithoutPlace();
        getValue();
        getWithoutPlace();
    }

    private static void putBits() {
        sentence("7: its value is v's lowest bit (0, 1)");
        FieldLine x = withDevice();
        int[] values = {0, 1, 2, 3, -1, -2, LEAST, GREATEST, 65536};
        for (int kind = 0; kind < 2; kind++) {
            x.bank(0, kind, 10, 3);
            for (int v : values) {
                due("put", x.put(0, kind, 11, v), true);
                due("of " + v, x.get(0, kind, 11), v & 1);
            }
        }
    }

    private static void putWords() {
        sentence("7: its value is v's lowest 16 bits (2, 3)");
        FieldLine x = withDevice();
        int[] values = {0, 65535, 65536, 65537, 0x12345, -1, -2, LEAST, GREATEST};
        for (int kind = 2; kind < 4; kind++) {
            x.bank(0, kind, 10, 3);
            for (int v : values) {
                due("put", x.put(0, kind, 11, v), true);
                due("of " + v, x.get(0, kind, 11), v & 65535);
            }
        }
    }

    private static void putWithoutPlace() {
        sentence("7: false if there is none");
        FieldLine x = withDevice();
        int[] places = {9, 13, -1, LEAST, GREATEST, 65536 + 11};
        for (int kind = 0; kind < 4; kind++) {
            x.bank(0, kind, 10, 3);
            for (int at : places) {
                due("at " + at, x.put(0, kind, at, 1), false);
            }
            due("the first place stays", x.get(0, kind, 10), 0);
            due("the last place stays", x.get(0, kind, 12), 0);
            due("the first place", x.put(0, kind, 10, 1), true);
            due("the last place", x.put(0, kind, 12, 1), true);
        }
        due("no device", x.put(1, 0, 11, 1), false);
        due("device -1", x.put(-1, 0, 11, 1), false);
        due("kind 4", x.put(0, 4, 11, 1), false);
        due("kind -1", x.put(0, -1, 11, 1), false);
    }

    private static void getValue() {
        sentence("8: a place's value");
        FieldLine x = withDevice();
        x.device(8, 0);
        for (int d = 0; d < 2; d++) {
            for (int kind = 0; kind < 4; kind++) {
                x.bank(d, kind, 10, 3);
                x.put(d, kind, 10, 2 * d + kind);
                x.put(d, kind, 12, 1 + 2 * d + kind);
            }
        }
        for (int d = 0; d < 2; d++) {
            for (int kind = 0; kind < 4; kind++) {
                int mask = kind < 2 ? 1 : 65535;
                due("the first", x.get(d, kind, 10), 2 * d + kind & mask);
                due("the middle", x.get(d, kind, 11), 0);
                due("the last", x.get(d, kind, 12), 1 + 2 * d + kind & mask);
            }
        }
    }

    private static void getWithoutPlace() {
        sentence("8: NONE without one");
        FieldLine x = withDevice();
        int[] places = {9, 13, -1, LEAST, GREATEST};
        for (int kind = 0; kind < 4; kind++) {
            x.bank(0, kind, 10, 3);
            for (int at : places) {
                due("at " + at, x.get(0, kind, at), NONE);
            }
        }
        due("no device", x.get(1, 0, 11), NONE);
        due("device -1", x.get(-1, 0, 11), NONE);
        due("kind 4", x.get(0, 4, 11), NONE);
        due("kind -1", x.get(0, -1, 11), NONE);
    }

    private static void limits() {
        limitsLeastAndGreatest();
        limitsAllCount();
        limitsOfRequestsAlone();
        limitsEight();
        limitsOfEachDevice();
        limitPlaces();
        limitBeyondTheLastPlace();
        limitValues();
        limitLowAndHigh();
        limitWithoutDevice();
    }

    /** Whether a request may give a register this value. */
    private static boolean mayBeGiven(FieldLine x, int at, int v) {
        load(x, 6, at / 256, at % 256, v / 256, v % 256);
        return x.serve(0) == 5;
    }

    private static void limitsLeastAndGreatest() {
        sentence("Terms 2: LIMITS: the least and the greatest value that a REGISTER there may be given");
        FieldLine x = withDevice();
        x.bank(0, 2, 0, 10);
        due("limit", x.limit(0, 2, 3, 10, 20), true);
        for (int at = 0; at < 10; at++) {
            boolean limited = at >= 2 && at <= 4;
            due("9 at " + at, mayBeGiven(x, at, 9), !limited);
            due("10 at " + at, mayBeGiven(x, at, 10), true);
            due("20 at " + at, mayBeGiven(x, at, 20), true);
            due("21 at " + at, mayBeGiven(x, at, 21), !limited);
        }
    }

    private static void limitsAllCount() {
        sentence("Terms 2: all that have the place count");
        FieldLine x = withDevice();
        x.bank(0, 2, 0, 10);
        x.limit(0, 2, 2, 10, 20);
        x.limit(0, 3, 2, 15, 25);
        int[] values = {9, 10, 14, 15, 20, 21, 25, 26};
        for (int v : values) {
            due(v + " at 2", mayBeGiven(x, 2, v), v >= 10 && v <= 20);
            due(v + " at 3", mayBeGiven(x, 3, v), v >= 15 && v <= 20);
            due(v + " at 4", mayBeGiven(x, 4, v), v >= 15 && v <= 25);
        }
    }

    private static void limitsOfRequestsAlone() {
        sentence("Terms 2: may be given by a request");
        FieldLine x = withDevice();
        x.bank(0, 2, 0, 10);
        x.bank(0, 3, 0, 10);
        x.limit(0, 0, 10, 5, 5);
        due("put", x.put(0, 2, 0, 77), true);
        due("its value", x.get(0, 2, 0), 77);
        x.rule(0, 1, 0, 0, 0);
        x.tick(1);
        due("a gauge", x.get(0, 3, 0), 77);
    }

    private static void limitsEight() {
        sentence("9: a LIMIT more (8 at most)");
        FieldLine x = withDevice();
        x.bank(0, 2, 0, 10);
        for (int i = 0; i < 8; i++) {
            due("limit " + i, x.limit(0, i, 1, 5, 5), true);
        }
        due("a ninth", x.limit(0, 8, 1, 5, 5), false);
        due("the first counts", mayBeGiven(x, 0, 6), false);
        due("the eighth counts", mayBeGiven(x, 7, 6), false);
        due("the ninth doesn't", mayBeGiven(x, 8, 6), true);
    }

    private static void limitsOfEachDevice() {
        sentence("9: a LIMIT more (of one device)");
        FieldLine x = withDevice();
        x.device(8, 0);
        x.bank(0, 2, 0, 1);
        for (int i = 0; i < 8; i++) {
            x.limit(1, 0, 1, 5, 5);
        }
        due("the other one's don't count", mayBeGiven(x, 0, 6), true);
        due("there is room", x.limit(0, 0, 1, 5, 5), true);
    }

    private static void limitPlaces() {
        sentence("9: for n places from one on (1 to 65536 of them)");
        FieldLine x = withDevice();
        int[] wrong = {0, -1, 65537, LEAST, GREATEST};
        for (int n : wrong) {
            due("n " + n, x.limit(0, 0, n, 0, 1), false);
        }
        x.bank(0, 2, 65534, 2);
        due("one", x.limit(0, 65534, 1, 0, 100), true);
        due("the place behind is free", mayBeGiven(x, 65535, 101), true);
        due("all", x.limit(0, 0, 65536, 0, 50), true);
        due("the last place", mayBeGiven(x, 65535, 51), false);
        x.bank(0, 2, 0, 1);
        due("the first place", mayBeGiven(x, 0, 51), false);
        due("as it may be", mayBeGiven(x, 0, 50), true);
    }

    private static void limitBeyondTheLastPlace() {
        sentence("9: none beyond 65535");
        FieldLine x = withDevice();
        due("from -1", x.limit(0, -1, 1, 0, 1), false);
        due("from least", x.limit(0, LEAST, 1, 0, 1), false);
        due("from 65536", x.limit(0, 65536, 1, 0, 1), false);
        due("from greatest", x.limit(0, GREATEST, 1, 0, 1), false);
        due("65536 from 1", x.limit(0, 1, 65536, 0, 1), false);
        due("two from 65535", x.limit(0, 65535, 2, 0, 1), false);
        due("one from 65535", x.limit(0, 65535, 1, 0, 1), true);
        due("65535 from 1", x.limit(0, 1, 65535, 0, 1), true);
    }

    private static void limitValues() {
        sentence("9: low to high, both 0 to 65535");
        FieldLine x = withDevice();
        due("low -1", x.limit(0, 0, 1, -1, 1), false);
        due("low least", x.limit(0, 0, 1, LEAST, 1), false);
        due("both 65536", x.limit(0, 0, 1, 65536, 65536), false);
        due("both -1", x.limit(0, 0, 1, -1, -1), false);
        due("high 65536", x.limit(0, 0, 1, 0, 65536), false);
        due("high greatest", x.limit(0, 0, 1, 0, GREATEST), false);
        due("0 to 65535", x.limit(0, 0, 1, 0, 65535), true);
        x.bank(0, 2, 0, 1);
        due("0 may be given", mayBeGiven(x, 0, 0), true);
        due("65535 may be given", mayBeGiven(x, 0, 65535), true);
        due("65535 to 65535", x.limit(0, 0, 1, 65535, 65535), true);
        due("65534 may not be given", mayBeGiven(x, 0, 65534), false);
        due("65535 may be given", mayBeGiven(x, 0, 65535), true);
        x.bank(0, 2, 1, 1);
        due("0 to 0", x.limit(0, 1, 1, 0, 0), true);
        due("1 may not be given", mayBeGiven(x, 1, 1), false);
        due("0 may be given", mayBeGiven(x, 1, 0), true);
    }

    private static void limitLowAndHigh() {
        sentence("9: low not above high");
        FieldLine x = withDevice();
        x.bank(0, 2, 0, 1);
        due("2 to 1", x.limit(0, 0, 1, 2, 1), false);
        due("65535 to 0", x.limit(0, 0, 1, 65535, 0), false);
        due("none came", mayBeGiven(x, 0, 9), true);
        due("2 to 2", x.limit(0, 0, 1, 2, 2), true);
        due("1", mayBeGiven(x, 0, 1), false);
        due("2", mayBeGiven(x, 0, 2), true);
        due("3", mayBeGiven(x, 0, 3), false);
    }

    private static void limitWithoutDevice() {
        sentence("9: a LIMIT more (without a device)");
        FieldLine x = withDevice();
        due("device 1", x.limit(1, 0, 1, 0, 1), false);
        due("device -1", x.limit(-1, 0, 1, 0, 1), false);
    }

    private static void files() {
        fileValues();
        fileMadeAnew();
        fileNumbers();
        filesFour();
        fileWithoutDevice();
        recordValue();
        recordWithoutOne();
    }

    private static void writeRecord(FieldLine x, int number, int k, int v) {
        load(x, 21, 9, 6, number / 256, number % 256, 0, k, 0, 1, v / 256, v % 256);
        x.serve(0);
    }

    private static void fileValues() {
        sentence("10: a file of n values (1 to 120), all 0");
        FieldLine x = withDevice();
        int[] wrong = {0, -1, 121, LEAST, GREATEST};
        for (int n : wrong) {
            due("n " + n, x.file(0, 1, n), false);
        }
        due("none came", x.record(0, 1, 0), NONE);
        due("n 120", x.file(0, 1, 120), true);
        for (int k = 0; k < 120; k++) {
            due("value " + k, x.record(0, 1, k), 0);
        }
        due("none behind", x.record(0, 1, 120), NONE);
        due("n 1", x.file(0, 2, 1), true);
        due("its value", x.record(0, 2, 0), 0);
        due("none behind", x.record(0, 2, 1), NONE);
    }

    private static void fileMadeAnew() {
        sentence("10: one of that number is made anew");
        FieldLine x = withDevice();
        x.file(0, 1, 10);
        writeRecord(x, 1, 0, 5);
        writeRecord(x, 1, 5, 6);
        writeRecord(x, 1, 9, 7);
        due("shorter", x.file(0, 1, 6), true);
        due("the first", x.record(0, 1, 0), 0);
        due("the last", x.record(0, 1, 5), 0);
        due("none behind", x.record(0, 1, 6), NONE);
        due("longer", x.file(0, 1, 10), true);
        due("the last", x.record(0, 1, 9), 0);
    }

    private static void fileNumbers() {
        sentence("Terms 2: FILES (numbers 1 to 65535)");
        FieldLine x = withDevice();
        int[] wrong = {0, -1, 65536, LEAST, GREATEST};
        for (int number : wrong) {
            due("number " + number, x.file(0, number, 1), false);
        }
        due("number 1", x.file(0, 1, 1), true);
        due("number 65535", x.file(0, 65535, 1), true);
        due("its value", x.record(0, 65535, 0), 0);
    }

    private static void filesFour() {
        sentence("Terms 2: FILES, at most 4");
        FieldLine x = withDevice();
        for (int number = 1; number <= 4; number++) {
            due("file " + number, x.file(0, number, number), true);
        }
        due("a fifth", x.file(0, 5, 1), false);
        due("none came", x.record(0, 5, 0), NONE);
        due("the fourth anew", x.file(0, 4, 9), true);
        due("its last value", x.record(0, 4, 8), 0);
        x.device(8, 0);
        due("another device has room", x.file(1, 5, 1), true);
    }

    private static void fileWithoutDevice() {
        sentence("10: a file (without a device)");
        FieldLine x = withDevice();
        due("device 1", x.file(1, 1, 1), false);
        due("device -1", x.file(-1, 1, 1), false);
    }

    private static void recordValue() {
        sentence("11: value k of a file, from 0 on");
        FieldLine x = withDevice();
        x.file(0, 1, 3);
        x.file(0, 300, 3);
        writeRecord(x, 1, 0, 65535);
        writeRecord(x, 1, 2, 515);
        writeRecord(x, 300, 1, 256);
        int[] want = {65535, 0, 515, 0, 256, 0};
        for (int k = 0; k < 3; k++) {
            due("value " + k, x.record(0, 1, k), want[k]);
            due("value " + k + " of the other", x.record(0, 300, k), want[3 + k]);
        }
    }

    private static void recordWithoutOne() {
        sentence("11: NONE without one");
        FieldLine x = withDevice();
        x.file(0, 1, 3);
        due("k -1", x.record(0, 1, -1), NONE);
        due("k least", x.record(0, 1, LEAST), NONE);
        due("k 3", x.record(0, 1, 3), NONE);
        due("k greatest", x.record(0, 1, GREATEST), NONE);
        due("no such file", x.record(0, 2, 0), NONE);
        due("file 0", x.record(0, 0, 0), NONE);
        due("no such device", x.record(1, 1, 0), NONE);
        due("device -1", x.record(-1, 1, 0), NONE);
    }

    private static void queues() {
        queuePlaces();
        queueThatIsThere();
        queuesFour();
        queueWithoutDevice();
        pushLowestBits();
        pushIntoAFullOne();
        pushWithoutQueue();
    }

    private static void queuePlaces() {
        sentence("Terms 2: QUEUES at places 0 to 65535");
        FieldLine x = withDevice();
        int[] wrong = {-1, 65536, LEAST, GREATEST};
        for (int at : wrong) {
            due("at " + at, x.queue(0, at), false);
            due("none came", x.push(0, at, 1), NONE);
        }
        due("at 0", x.queue(0, 0), true);
        due("at 65535", x.queue(0, 65535), true);
        due("push at 65535", x.push(0, 65535, 1), 1);
        due("push at 0", x.push(0, 0, 1), 1);
    }

    private static void queueThatIsThere() {
        sentence("12: false, too, if there is one");
        FieldLine x = withDevice();
        x.queue(0, 3);
        x.push(0, 3, 9);
        due("the same", x.queue(0, 3), false);
        due("it stays", x.push(0, 3, 9), 2);
        x.device(8, 0);
        due("of another device", x.queue(1, 3), true);
    }

    private static void queuesFour() {
        sentence("Terms 2: QUEUES (at most 4)");
        FieldLine x = withDevice();
        for (int at = 0; at < 4; at++) {
            due("queue " + at, x.queue(0, at), true);
        }
        due("a fifth", x.queue(0, 4), false);
        due("none came", x.push(0, 4, 1), NONE);
        due("the fourth", x.push(0, 3, 1), 1);
    }

    private static void queueWithoutDevice() {
        sentence("12: a new QUEUE (without a device)");
        FieldLine x = withDevice();
        due("device 1", x.queue(1, 0), false);
        due("device -1", x.queue(-1, 0), false);
    }

    private static void pushLowestBits() {
        sentence("13: v's lowest 16 bits come into a QUEUE: how many it has");
        FieldLine x = withDevice();
        x.queue(0, 0);
        due("push", x.push(0, 0, 0x1FFFE), 1);
        due("push", x.push(0, 0, -1), 2);
        due("push", x.push(0, 0, 65536), 3);
        due("push", x.push(0, 0, LEAST), 4);
        served(x, 0, bytes(24, 0, 0), 24, 0, 10, 0, 4, 255, 254, 255, 255, 0, 0, 0, 0);
    }

    private static void pushIntoAFullOne() {
        sentence("13: NONE: it has 40");
        FieldLine x = withDevice();
        x.queue(0, 0);
        x.queue(0, 1);
        for (int i = 1; i <= 40; i++) {
            due("push " + i, x.push(0, 0, i), i);
        }
        due("a 41st", x.push(0, 0, 1), NONE);
        due("the other one", x.push(0, 1, 1), 1);
    }

    private static void pushWithoutQueue() {
        sentence("13: NONE: there is none");
        FieldLine x = withDevice();
        due("no queue", x.push(0, 0, 1), NONE);
        x.queue(0, 5);
        due("at 4", x.push(0, 4, 1), NONE);
        due("at 6", x.push(0, 6, 1), NONE);
        due("at -1", x.push(0, -1, 1), NONE);
        due("no device", x.push(1, 5, 1), NONE);
        due("device -1", x.push(-1, 5, 1), NONE);
    }

    private static void texts() {
        nameTakesTheTape();
        nameOfFortyBytes();
        nameOfNoBytes();
        nameInPlace();
        nameIds();
        namesTen();
        nameWithoutDevice();
    }

    private static void nameTakesTheTape() {
        sentence("14: a text is the TAPE (empty then)");
        FieldLine x = withDevice();
        due("name", name(x, 0, 0, 65, 0, 255), true);
        tapeIs(x, "behind it");
        served(x, 0, bytes(43, 14, 4, 0), 43, 14, 4, 129, 0, 0, 1, 0, 3, 65, 0, 255);
    }

    private static void nameOfFortyBytes() {
        sentence("14: 40 bytes at most");
        FieldLine x = withDevice();
        int[] long1 = repeat(65, 41);
        due("41 bytes", name(x, 0, 0, long1), false);
        tapeIs(x, "the tape stays", long1);
        due("400 bytes", name(x, 0, 0, repeat(65, 400)), false);
        refused(x, 0, 2, 43, 14, 4, 0);
        due("40 bytes", name(x, 0, 0, repeat(65, 40)), true);
        served(x, 0, bytes(43, 14, 4, 0), join(bytes(43, 14, 4, 129, 0, 0, 1, 0, 40), repeat(65, 40)));
    }

    private static void nameOfNoBytes() {
        sentence("Terms 2: TEXTS of 0 to 40 bytes");
        FieldLine x = withDevice();
        due("0 bytes", x.name(0, 0), true);
        served(x, 0, bytes(43, 14, 4, 0), 43, 14, 4, 129, 0, 0, 1, 0, 0);
    }

    private static void nameInPlace() {
        sentence("14: in place of one of that id");
        FieldLine x = withDevice();
        name(x, 0, 1, 65, 66, 67);
        due("a shorter one", name(x, 0, 1, 70), true);
        served(x, 0, bytes(43, 14, 3, 0), 43, 14, 3, 129, 0, 0, 1, 1, 1, 70);
    }

    private static void nameIds() {
        sentence("Terms 2: TEXTS by ids: 0 to 6 and 128 to 255");
        FieldLine x = withDevice();
        int[] wrong = {-1, 7, 127, 256, LEAST, GREATEST};
        load(x, 65);
        for (int id : wrong) {
            due("id " + id, x.name(0, id), false);
        }
        tapeIs(x, "behind these", 65);
        int[] right = {0, 6, 128, 255};
        for (int id : right) {
            due("id " + id, name(x, 0, id, id), true);
            served(x, 0, bytes(43, 14, 4, id), 43, 14, 4, id > 6 ? 131 : id > 2 ? 130 : 129, 0, 0, 1, id, 1, id);
        }
    }

    private static void namesTen() {
        sentence("Terms 2: TEXTS, at most 10");
        FieldLine x = withDevice();
        int[] ids = {0, 1, 2, 3, 4, 5, 6, 128, 129, 130};
        for (int id : ids) {
            due("id " + id, name(x, 0, id, 9), true);
        }
        due("an eleventh", name(x, 0, 131, 9), false);
        tapeIs(x, "the tape stays", 9);
        refused(x, 0, 2, 43, 14, 4, 131);
        due("the tenth again", name(x, 0, 130, 8), true);
        served(x, 0, bytes(43, 14, 4, 130), 43, 14, 4, 131, 0, 0, 1, 130, 1, 8);
    }

    private static void nameWithoutDevice() {
        sentence("14: a text (without a device)");
        FieldLine x = withDevice();
        due("device 1", name(x, 1, 0, 65), false);
        tapeIs(x, "the tape stays", 65);
        due("device -1", x.name(-1, 0), false);
        due("device 0", x.name(0, 0), true);
    }

    private static void busy() {
        busyCounts();
        busyForNine();
        busyInPlace();
        busyWithoutDevice();
    }

    private static void busyCounts() {
        sentence("16: BUSY for the next n that it would serve");
        FieldLine x = withDevice();
        due("busy", x.busy(0, 2), true);
        refused(x, 0, 6, 17);
        counters(x, 0, "once", 11, 1, 6, 1);
        refused(x, 0, 6, 99);
        counters(x, 0, "twice", 11, 0, 6, 2);
        served(x, 0, bytes(17), 17, 2, 0, 255);
        counters(x, 0, "not any more", 11, 0, 6, 2);
    }

    private static void busyForNine() {
        sentence("16: n (0 to 9)");
        FieldLine x = withDevice();
        int[] wrong = {-1, 10, LEAST, GREATEST};
        for (int n : wrong) {
            due("n " + n, x.busy(0, n), false);
        }
        counters(x, 0, "behind these", 11, 0);
        due("n 9", x.busy(0, 9), true);
        counters(x, 0, "nine", 11, 9);
        due("n 0", x.busy(0, 0), true);
        served(x, 0, bytes(17), 17, 2, 0, 255);
    }

    private static void busyInPlace() {
        sentence("16: in place of what was told");
        FieldLine x = withDevice();
        x.busy(0, 5);
        due("busy", x.busy(0, 1), true);
        counters(x, 0, "one", 11, 1);
        due("more", x.busy(0, 7), true);
        counters(x, 0, "seven", 11, 7);
    }

    private static void busyWithoutDevice() {
        sentence("16: a device is BUSY (without a device)");
        FieldLine x = withDevice();
        due("device 1", x.busy(1, 1), false);
        due("device -1", x.busy(-1, 1), false);
        counters(x, 0, "the other one", 11, 0);
    }
}
