/** Promises 1 to 4: a new object, feed, end, sum. */
public final class TapeTest extends Check {
    public static void main(String[] args) {
        noDevices();
        noRequests();
        emptyTape();
        noAnswer();
        atFirst();
        feedHighestFirst();
        feedToTheFullTape();
        feedBeyondTheFullTape();
        endKeepsTheFirst();
        endOfNothing();
        endBeyondTheTape();
        endBelowZero();
        sumOfNothing();
        sumOfBytes();
        sumOfAFullTape();
        sumLeavesTheTape();
        end("TapeTest");
    }

    private static void noDevices() {
        sentence("1: no devices");
        FieldLine x = new FieldLine();
        due("state(12)", x.state(12), 0);
        due("counter(0, 16)", x.counter(0, 16), NONE);
        load(x, 17);
        due("serve(0)", x.serve(0), NONE);
    }

    private static void noRequests() {
        sentence("1: no requests");
        FieldLine x = new FieldLine();
        states(x, "new", 5, 0, 6, 0, 7, 0, 13, 0);
        due("bytes in 1000 ticks", x.tick(1000), 0);
        states(x, "later", 7, 0, 16, 0);
        due("the first one's number", request(x, 1, 17), 0);
    }

    private static void emptyTape() {
        sentence("1: an empty TAPE");
        FieldLine x = new FieldLine();
        due("state(14)", x.state(14), 0);
        due("request(1)", x.request(1), NONE);
    }

    private static void noAnswer() {
        sentence("1: no ANSWER");
        FieldLine x = new FieldLine();
        due("state(15)", x.state(15), 0);
        due("answer(0)", x.answer(0), NONE);
    }

    private static void atFirst() {
        sentence("Terms 1: IDLE is 14 at first, the clock is 0 at first");
        FieldLine x = new FieldLine();
        for (int what = 0; what <= 16; what++) {
            due("state(" + what + ")", x.state(what), what == 2 ? 14 : 0);
        }
        due("sent(0)", x.sent(0), NONE);
        due("result(0)", x.result(0), NONE);
        due("take()", x.take(), false);
    }

    private static void feedHighestFirst() {
        sentence("2: twenty bytes come behind the TAPE, of each number the highest first");
        FieldLine x = new FieldLine();
        x.device(1, 0);
        due("feed", x.feed(0x08000001, 0x020304FF, 0xFFFFFF80, Integer.MIN_VALUE, Integer.MAX_VALUE), 20);
        tapeIs(x, "one feed", 8, 0, 0, 1, 2, 3, 4, 255, 255, 255, 255, 128, 128, 0, 0, 0, 127, 255, 255, 255);
        x.end(19);
        due("a second one", x.feed(0x00FE0000, -1, 0, 0, 0x000000FF), 39);
        due("serve", x.serve(0), 39);
        int[] want = {8, 0, 0, 1, 2, 3, 4, 255, 255, 255, 255, 128, 128, 0, 0, 0, 127, 255, 255,
            0, 254, 0, 0, 255, 255, 255, 255, 0, 0, 0, 0, 0, 0, 0, 0, 0, 0, 0, 255};
        for (int i = 0; i < want.length; i++) {
            due("byte " + i, x.answer(i), want[i]);
        }
    }

    private static void feedToTheFullTape() {
        sentence("2: how many it has");
        FieldLine x = new FieldLine();
        for (int i = 1; i <= 20; i++) {
            due("feed " + i, x.feed(i, i, i, i, i), 20 * i);
        }
        x.end(380);
        due("from 380", x.feed(1, 1, 1, 1, 1), 400);
    }

    private static void feedBeyondTheFullTape() {
        sentence("2: NONE if these would be more than 400");
        int[] before = {400, 399, 381};
        for (int n : before) {
            FieldLine x = new FieldLine();
            int[] tape = repeat(7, n);
            load(x, tape);
            due("from " + n, x.feed(1, 1, 1, 1, 1), NONE);
            tapeIs(x, "from " + n, tape);
        }
    }

    private static void endKeepsTheFirst() {
        sentence("3: the TAPE has its first n bytes alone: n");
        FieldLine x = new FieldLine();
        x.feed(0x01020304, 5, 6, 7, 8);
        due("end(20)", x.end(20), 20);
        tapeIs(x, "all", 1, 2, 3, 4, 0, 0, 0, 5, 0, 0, 0, 6, 0, 0, 0, 7, 0, 0, 0, 8);
        due("end(3)", x.end(3), 3);
        tapeIs(x, "three", 1, 2, 3);
        x.feed(0x09000000, 0, 0, 0, 0);
        due("end(4)", x.end(4), 4);
        tapeIs(x, "fed behind these", 1, 2, 3, 9);
    }

    private static void endOfNothing() {
        sentence("3: n (of 0)");
        FieldLine x = new FieldLine();
        due("of an empty tape", x.end(0), 0);
        x.feed(1, 2, 3, 4, 5);
        due("of twenty", x.end(0), 0);
        tapeIs(x, "behind it");
    }

    private static void endBeyondTheTape() {
        sentence("3: NONE if it has less");
        FieldLine x = new FieldLine();
        due("end(1) of an empty tape", x.end(1), NONE);
        load(x, 1, 2, 3);
        due("end(4)", x.end(4), NONE);
        due("end(greatest)", x.end(Integer.MAX_VALUE), NONE);
        tapeIs(x, "behind these", 1, 2, 3);
    }

    private static void endBelowZero() {
        sentence("3: NONE if n is below 0");
        FieldLine x = new FieldLine();
        load(x, 1, 2, 3);
        due("end(-1)", x.end(-1), NONE);
        due("end(least)", x.end(Integer.MIN_VALUE), NONE);
        tapeIs(x, "behind these", 1, 2, 3);
    }

    private static void sumOfNothing() {
        sentence("Terms 1: SUM of bytes: c is 65535");
        due("sum", new FieldLine().sum(), 65535);
    }

    private static void sumOfBytes() {
        sentence("4: the SUM of the TAPE");
        FieldLine x = new FieldLine();
        load(x, '1', '2', '3', '4', '5', '6', '7', '8', '9');
        due("of 123456789", x.sum(), 0x4B37);
        load(x, 0);
        due("of a 0", x.sum(), 0x40BF);
        load(x, 255);
        due("of a 255", x.sum(), 0x00FF);
        load(x, 255, 255);
        due("of two", x.sum(), 0);
    }

    private static void sumOfAFullTape() {
        sentence("4: the SUM of the TAPE (a full one)");
        FieldLine x = new FieldLine();
        int[] tape = new int[400];
        for (int i = 0; i < 400; i++) {
            tape[i] = i * 7 & 255;
        }
        load(x, tape);
        tapeIs(x, "400 bytes", tape);
        x.end(399);
        tapeIs(x, "399 bytes", java.util.Arrays.copyOf(tape, 399));
    }

    private static void sumLeavesTheTape() {
        sentence("4: which stays");
        FieldLine x = new FieldLine();
        load(x, 1, 2, 3);
        x.sum();
        tapeIs(x, "behind a sum", 1, 2, 3);
    }
}
