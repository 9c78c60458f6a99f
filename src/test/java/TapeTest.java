/** Promises 1 to 4: a new object, feed, end, sum. */
public final class TapeTest {
    private static final Check C = new Check("TapeTest");

    public static void main(String[] args) {
        newObject();
        feed();
        end();
        sum();
        C.end();
    }

    private static void newObject() {
        FieldLine x = new FieldLine();
        for (int what = 0; what <= 16; what++) {
            C.due("new: state(" + what + ")", x.state(what), what == 2 ? 14 : 0);
        }
        C.due("new: state(-1)", x.state(-1), -1);
        C.due("new: state(17)", x.state(17), -1);
        C.due("new: answer(0)", x.answer(0), -1);
        C.due("new: sent(0)", x.sent(0), -1);
        C.due("new: result(0)", x.result(0), -1);
        C.due("new: counter(0, 0)", x.counter(0, 0), -1);
        C.due("new: take()", x.take(), false);
    }

    private static void feed() {
        FieldLine x = new FieldLine();
        x.device(1, 0);
        C.due("feed", x.feed(0x08000001, 0x020304FF, 0xFFFFFF80, 0, 0x000000FF), 20);
        C.due("second feed", x.feed(0x00FE0000, 0, 0, 0, 0), 40);
        C.due("end", x.end(23), 23);
        C.due("state(14)", x.state(14), 23);
        C.due("serve", x.serve(0), 23);
        int[] tape = {8, 0, 0, 1, 2, 3, 4, 255, 255, 255, 255, 128, 0, 0, 0, 0, 0, 0, 0, 255, 0, 254, 0};
        for (int i = 0; i < tape.length; i++) {
            C.due("byte " + i + " of the tape", x.answer(i), tape[i]);
        }
        for (int i = 1; i <= 20; i++) {
            C.due("feed " + i, x.feed(i, i, i, i, i), 20 * i);
        }
        C.due("feed beyond 400", x.feed(1, 1, 1, 1, 1), -1);
        C.due("tape is as it was", x.state(14), 400);
        x.end(381);
        C.due("feed beyond 400 from 381", x.feed(1, 1, 1, 1, 1), -1);
        x.end(380);
        C.due("feed to 400", x.feed(1, 1, 1, 1, 1), 400);
    }

    private static void end() {
        FieldLine x = new FieldLine();
        C.due("end(0) of an empty tape", x.end(0), 0);
        C.due("end(1) of an empty tape", x.end(1), -1);
        x.feed(1, 2, 3, 4, 5);
        C.due("end(21)", x.end(21), -1);
        C.due("end(-1)", x.end(-1), -1);
        C.due("end(min)", x.end(Integer.MIN_VALUE), -1);
        C.due("tape stays", x.state(14), 20);
        C.due("end(20)", x.end(20), 20);
        C.due("end(3)", x.end(3), 3);
        C.due("tape is cut", x.state(14), 3);
        C.due("end(4)", x.end(4), -1);
    }

    private static void sum() {
        FieldLine x = new FieldLine();
        C.due("sum of nothing", x.sum(), 65535);
        Check.load(x, '1', '2', '3', '4', '5', '6', '7', '8', '9');
        C.due("sum of 123456789", x.sum(), 0x4B37);
        C.due("sum again", x.sum(), 0x4B37);
        C.due("tape stays", x.state(14), 9);
        Check.load(x, 0);
        C.due("sum of a 0", x.sum(), 0x40BF);
    }
}
