/** Promises 5 to 14 and 16: what a device is and what it keeps. */
public final class DevicesTest {
    private static final Check C = new Check("DevicesTest");

    public static void main(String[] args) {
        device();
        bank();
        putAndGet();
        limit();
        fileAndRecord();
        queueAndPush();
        name();
        busy();
        C.end();
    }

    private static FieldLine withDevice() {
        FieldLine x = new FieldLine();
        x.device(7, 0);
        return x;
    }

    private static void device() {
        FieldLine x = new FieldLine();
        C.due("address 0", x.device(0, 0), -1);
        C.due("address 248", x.device(248, 0), -1);
        C.due("lag -1", x.device(1, -1), -1);
        C.due("lag 2001", x.device(1, 2001), -1);
        C.due("device", x.device(1, 0), 0);
        C.due("the same address", x.device(1, 5), -1);
        C.due("second", x.device(247, 2000), 1);
        for (int i = 2; i < 6; i++) {
            C.due("device " + i, x.device(i, i), i);
        }
        C.due("a seventh", x.device(100, 0), -1);
        C.due("state(12)", x.state(12), 6);
        C.due("address of 1", x.counter(1, 16), 247);
        C.due("address of 5", x.counter(5, 16), 5);
    }

    private static void bank() {
        FieldLine x = withDevice();
        C.due("no device", x.bank(1, 0, 0, 1), false);
        C.due("device -1", x.bank(-1, 0, 0, 1), false);
        C.due("kind -1", x.bank(0, -1, 0, 1), false);
        C.due("kind 4", x.bank(0, 4, 0, 1), false);
        C.due("from -1", x.bank(0, 0, -1, 1), false);
        C.due("from 65536", x.bank(0, 0, 65536, 0), false);
        C.due("n -1", x.bank(0, 0, 0, -1), false);
        C.due("n 401", x.bank(0, 0, 0, 401), false);
        C.due("beyond 65535", x.bank(0, 0, 65535, 2), false);
        C.due("from the greatest", x.bank(0, 0, Integer.MAX_VALUE, 400), false);
        C.due("the last place", x.bank(0, 0, 65535, 1), true);
        C.due("its value", x.get(0, 0, 65535), 0);
        C.due("400 places", x.bank(0, 2, 65136, 400), true);
        C.due("the last of them", x.get(0, 2, 65535), 0);
        C.due("none ahead", x.get(0, 2, 65135), -1);
        x.put(0, 2, 65136, 9);
        C.due("made anew", x.bank(0, 2, 65136, 3), true);
        C.due("all 0", x.get(0, 2, 65136), 0);
        C.due("no fourth", x.get(0, 2, 65139), -1);
        C.due("a refused one", x.bank(0, 2, 0, 500), false);
        C.due("changes nothing", x.get(0, 2, 65138), 0);
        C.due("no places", x.bank(0, 2, 5, 0), true);
        C.due("none is there", x.get(0, 2, 5), -1);
    }

    private static void putAndGet() {
        FieldLine x = withDevice();
        for (int kind = 0; kind < 4; kind++) {
            C.due("put without a bank", x.put(0, kind, 0, 1), false);
            x.bank(0, kind, 10, 3);
            C.due("put", x.put(0, kind, 11, -2), true);
            C.due("get", x.get(0, kind, 11), kind < 2 ? 0 : 65534);
            x.put(0, kind, 11, 0x12345);
            C.due("get", x.get(0, kind, 11), kind < 2 ? 1 : 0x2345);
            C.due("the place behind", x.get(0, kind, 12), 0);
            C.due("put ahead", x.put(0, kind, 9, 1), false);
            C.due("put behind", x.put(0, kind, 13, 1), false);
            C.due("put at the least", x.put(0, kind, Integer.MIN_VALUE, 1), false);
            C.due("get ahead", x.get(0, kind, 9), -1);
            C.due("get behind", x.get(0, kind, 13), -1);
            C.due("get at the least", x.get(0, kind, Integer.MIN_VALUE), -1);
            C.due("get at the greatest", x.get(0, kind, Integer.MAX_VALUE), -1);
        }
        C.due("put, no device", x.put(1, 0, 11, 1), false);
        C.due("get, no device", x.get(-1, 0, 11), -1);
        C.due("put, no kind", x.put(0, 4, 11, 1), false);
        C.due("get, no kind", x.get(0, -1, 11), -1);
    }

    private static void limit() {
        FieldLine x = withDevice();
        x.bank(0, 2, 0, 10);
        C.due("no device", x.limit(1, 0, 1, 0, 1), false);
        C.due("from -1", x.limit(0, -1, 1, 0, 1), false);
        C.due("from 65536", x.limit(0, 65536, 1, 0, 1), false);
        C.due("n 0", x.limit(0, 0, 0, 0, 1), false);
        C.due("n 65537", x.limit(0, 0, 65537, 0, 1), false);
        C.due("beyond 65535", x.limit(0, 1, 65536, 0, 1), false);
        C.due("low -1", x.limit(0, 0, 1, -1, 1), false);
        C.due("high 65536", x.limit(0, 0, 1, 0, 65536), false);
        C.due("low above high", x.limit(0, 0, 1, 2, 1), false);
        C.served(x, 0, Check.bytes(6, 0, 3, 255, 255), 6, 0, 3, 255, 255);
        C.due("a limit", x.limit(0, 2, 2, 10, 20), true);
        C.due("one over it", x.limit(0, 3, 1, 0, 15), true);
        C.due("one of all", x.limit(0, 0, 65536, 0, 65535), true);
        C.refused(x, 0, 3, 6, 0, 2, 0, 9);
        C.refused(x, 0, 3, 6, 0, 2, 0, 21);
        C.served(x, 0, Check.bytes(6, 0, 2, 0, 20), 6, 0, 2, 0, 20);
        C.refused(x, 0, 3, 6, 0, 3, 0, 16);
        C.served(x, 0, Check.bytes(6, 0, 3, 0, 10), 6, 0, 3, 0, 10);
        C.served(x, 0, Check.bytes(6, 0, 4, 0, 1), 6, 0, 4, 0, 1);
        C.served(x, 0, Check.bytes(6, 0, 1, 0, 1), 6, 0, 1, 0, 1);
        C.due("put is free of limits", x.put(0, 2, 2, 1), true);
        for (int i = 3; i < 8; i++) {
            C.due("limit " + i, x.limit(0, 9, 1, 5, 5), true);
        }
        C.due("a ninth", x.limit(0, 8, 1, 5, 5), false);
        C.refused(x, 0, 3, 6, 0, 9, 0, 6);
        C.served(x, 0, Check.bytes(6, 0, 8, 0, 6), 6, 0, 8, 0, 6);
    }

    private static void fileAndRecord() {
        FieldLine x = withDevice();
        C.due("no device", x.file(1, 1, 1), false);
        C.due("number 0", x.file(0, 0, 1), false);
        C.due("number 65536", x.file(0, 65536, 1), false);
        C.due("n 0", x.file(0, 1, 0), false);
        C.due("n 121", x.file(0, 1, 121), false);
        C.due("record without a file", x.record(0, 1, 0), -1);
        C.due("file", x.file(0, 1, 120), true);
        C.due("last value", x.record(0, 1, 119), 0);
        C.due("no value behind", x.record(0, 1, 120), -1);
        C.due("no value ahead", x.record(0, 1, -1), -1);
        C.due("no such file", x.record(0, 2, 0), -1);
        C.due("no such device", x.record(1, 1, 0), -1);
        Check.load(x, 21, 9, 6, 0, 1, 0, 5, 0, 1, 2, 3);
        x.serve(0);
        C.due("written", x.record(0, 1, 5), 515);
        Check.load(x, 21, 9, 6, 0, 1, 0, 0, 0, 1, 2, 3);
        x.serve(0);
        C.due("second", x.file(0, 65535, 1), true);
        C.due("third", x.file(0, 3, 1), true);
        C.due("fourth", x.file(0, 4, 1), true);
        C.due("a fifth", x.file(0, 5, 1), false);
        C.due("anew", x.file(0, 1, 6), true);
        C.due("all 0", x.record(0, 1, 5), 0);
        C.due("the first one, too", x.record(0, 1, 0), 0);
        C.due("shorter", x.record(0, 1, 6), -1);
    }

    private static void queueAndPush() {
        FieldLine x = withDevice();
        C.due("no device", x.queue(1, 0), false);
        C.due("at -1", x.queue(0, -1), false);
        C.due("at 65536", x.queue(0, 65536), false);
        C.due("push without one", x.push(0, 0, 1), -1);
        C.due("queue", x.queue(0, 0), true);
        C.due("the same", x.queue(0, 0), false);
        C.due("second", x.queue(0, 65535), true);
        C.due("third", x.queue(0, 2), true);
        C.due("fourth", x.queue(0, 3), true);
        C.due("a fifth", x.queue(0, 4), false);
        C.due("push to no device", x.push(1, 0, 1), -1);
        C.due("push", x.push(0, 0, 0x1FFFE), 1);
        C.due("push a second", x.push(0, 0, -1), 2);
        C.served(x, 0, Check.bytes(24, 0, 0), 24, 0, 6, 0, 2, 255, 254, 255, 255);
        for (int i = 3; i <= 40; i++) {
            C.due("push " + i, x.push(0, 0, i), i);
        }
        C.due("push a 41st", x.push(0, 0, 1), -1);
    }

    private static void name() {
        FieldLine x = withDevice();
        int[] ids = {-1, 7, 127, 256};
        for (int id : ids) {
            C.due("id " + id, x.name(0, id), false);
        }
        C.due("no device", x.name(1, 0), false);
        Check.load(x, Check.repeat(65, 41));
        C.due("41 bytes", x.name(0, 0), false);
        C.due("the tape stays", x.state(14), 41);
        x.end(40);
        C.due("40 bytes", x.name(0, 0), true);
        C.due("the tape is empty", x.state(14), 0);
        C.served(x, 0, Check.bytes(43, 14, 4, 0),
                Check.join(Check.bytes(43, 14, 4, 129, 0, 0, 1, 0, 40), Check.repeat(65, 40)));
        C.due("0 bytes in its place", x.name(0, 0), true);
        C.served(x, 0, Check.bytes(43, 14, 4, 0), 43, 14, 4, 129, 0, 0, 1, 0, 0);
        int[] more = {1, 6, 128, 255, 200, 2, 3, 4, 5};
        for (int id : more) {
            C.due("id " + id, x.name(0, id), true);
        }
        C.due("an eleventh", x.name(0, 129), false);
        C.due("one of the ten again", x.name(0, 255), true);
    }

    private static void busy() {
        FieldLine x = withDevice();
        C.due("no device", x.busy(1, 1), false);
        C.due("-1", x.busy(0, -1), false);
        C.due("10", x.busy(0, 10), false);
        C.due("9", x.busy(0, 9), true);
        C.due("counter(0, 11)", x.counter(0, 11), 9);
        C.due("2 in its place", x.busy(0, 2), true);
        C.refused(x, 0, 6, 17);
        C.refused(x, 0, 6, 99);
        C.due("counter(0, 11)", x.counter(0, 11), 0);
        C.due("counter(0, 6)", x.counter(0, 6), 2);
        C.served(x, 0, Check.bytes(17), 17, 2, 0, 255);
        x.busy(0, 1);
        C.due("0", x.busy(0, 0), true);
        C.served(x, 0, Check.bytes(17), 17, 2, 0, 255);
    }
}
