/** What part 3 of the terms tells of files, queues and texts: functions 20, 21, 24 and 43. */
public final class RecordsTest extends Check {
    public static void main(String[] args) {
        readFiles();
        writeFiles();
        queues();
        texts();
        end("RecordsTest");
    }

    /** File 1 of 10 values, file 300 of 120; value k is 256 and k. */
    private static FieldLine line() {
        FieldLine x = new FieldLine();
        x.device(5, 0);
        x.file(0, 1, 10);
        x.file(0, 300, 120);
        for (int k = 0; k < 10; k++) {
            load(x, 21, 9, 6, 0, 1, 0, k, 0, 1, 1, k);
            x.serve(0);
        }
        return x;
    }

    private static int[] part(int file, int from, int n, int... values) {
        return join(bytes(6, file / 256, file % 256, from / 256, from % 256, n / 256, n % 256), values);
    }

    /** A PDU of some parts, b being how many bytes they have. */
    private static int[] pdu(int f, int[]... parts) {
        int[] all = join(parts);
        return join(bytes(f, all.length), all);
    }

    private static void readFiles() {
        readParts();
        readNothing();
        readTooShort();
        readByteCount();
        readAnswerLength();
        readPartKind();
        readPartFile();
        readPartBeyond();
        readOrderOfRefusals();
    }

    private static void readParts() {
        sentence("Terms 3: 20: 20, how many bytes, of each part: 1 and 2 n, 6, values");
        FieldLine x = line();
        served(x, 0, pdu(20, part(1, 0, 1)), 20, 4, 3, 6, 1, 0);
        served(x, 0, pdu(20, part(1, 8, 2), part(300, 119, 1), part(1, 0, 1)),
                20, 14, 5, 6, 1, 8, 1, 9, 3, 6, 0, 0, 3, 6, 1, 0);
        served(x, 0, pdu(20, part(300, 0, 120)), join(bytes(20, 242, 241, 6), repeat(0, 240)));
        x.queue(0, 7 * 256 + 6);
        served(x, 0, pdu(20, part(1, 0, 1)), 20, 4, 3, 6, 1, 0);
    }

    private static void readNothing() {
        sentence("Terms 3: 20: parts (of no values)");
        FieldLine x = line();
        served(x, 0, pdu(20, part(1, 0, 0)), 20, 2, 1, 6);
        served(x, 0, pdu(20, part(1, 10, 0)), 20, 2, 1, 6);
        refused(x, 0, 2, pdu(20, part(1, 11, 0)));
        int[][] parts = new int[35][];
        java.util.Arrays.fill(parts, part(1, 0, 0));
        int[] want = new int[72];
        for (int i = 0; i < 72; i += 2) {
            want[i] = 1;
            want[i + 1] = 6;
        }
        want[0] = 20;
        want[1] = 70;
        served(x, 0, pdu(20, parts), want);
    }

    private static void readTooShort() {
        sentence("Terms 3: 20: L: none behind F");
        refused(line(), 0, 3, 20);
    }

    private static void readByteCount() {
        sentence("Terms 3: 20: 3: b not 7 to 245, no multiple of 7, not b bytes");
        FieldLine x = line();
        refused(x, 0, 3, 20, 0);
        refused(x, 0, 3, 20, 6, 6, 0, 1, 0, 0, 0);
        refused(x, 0, 3, 20, 8, 6, 0, 1, 0, 0, 0, 1, 0);
        refused(x, 0, 3, 20, 13, 6, 0, 1, 0, 0, 0, 1, 6, 0, 1, 0, 0, 0);
        refused(x, 0, 3, 20, 14, 6, 0, 1, 0, 0, 0, 1);
        refused(x, 0, 3, 20, 7, 6, 0, 1, 0, 0, 0, 1, 0);
        refused(x, 0, 3, 20, 7, 6, 0, 1, 0, 0, 0);
        refused(x, 0, 3, 20, 7);
        refused(x, 0, 3, join(bytes(20, 252), repeat(0, 251)));
        refused(x, 0, 3, join(bytes(20, 245), repeat(0, 251)));
        refused(x, 0, 3, join(bytes(20, 251), repeat(0, 251)));
    }

    private static void readAnswerLength() {
        sentence("Terms 3: 20: 3: the answer would have more than 253 bytes");
        FieldLine x = line();
        refused(x, 0, 3, pdu(20, part(300, 0, 125)));
        refused(x, 0, 2, pdu(20, part(300, 0, 124)));
        refused(x, 0, 3, pdu(20, part(300, 0, 120), part(300, 0, 4)));
        refused(x, 0, 3, pdu(20, part(300, 0, 65535), part(300, 0, 65535)));
        served(x, 0, pdu(20, part(300, 0, 119), part(1, 0, 4)), join(
                bytes(20, 250, 239, 6), repeat(0, 238), bytes(9, 6, 1, 0, 1, 1, 1, 2, 1, 3)));
    }

    private static void readPartKind() {
        sentence("Terms 3: 20: part by part 2: not 6");
        FieldLine x = line();
        refused(x, 0, 2, 20, 7, 5, 0, 1, 0, 0, 0, 1);
        refused(x, 0, 2, 20, 7, 7, 0, 1, 0, 0, 0, 1);
        refused(x, 0, 2, 20, 14, 6, 0, 1, 0, 0, 0, 1, 0, 0, 1, 0, 0, 0, 1);
    }

    private static void readPartFile() {
        sentence("Terms 3: 20: part by part 2: no such file");
        FieldLine x = line();
        refused(x, 0, 2, pdu(20, part(2, 0, 1)));
        refused(x, 0, 2, pdu(20, part(0, 0, 0)));
        refused(x, 0, 2, pdu(20, part(1, 0, 1), part(301, 0, 1)));
        x.device(6, 0);
        refused(x, 1, 2, pdu(20, part(1, 0, 1)));
    }

    private static void readPartBeyond() {
        sentence("Terms 3: 20: part by part 2: from + n beyond it");
        FieldLine x = line();
        refused(x, 0, 2, pdu(20, part(1, 0, 11)));
        refused(x, 0, 2, pdu(20, part(1, 9, 2)));
        refused(x, 0, 2, pdu(20, part(1, 10, 1)));
        refused(x, 0, 2, pdu(20, part(1, 65535, 1)));
        refused(x, 0, 2, pdu(20, part(300, 0, 121)));
        refused(x, 0, 2, pdu(20, part(1, 0, 10), part(1, 1, 10)));
        served(x, 0, pdu(20, part(1, 9, 1)), 20, 4, 3, 6, 1, 9);
    }

    private static void readOrderOfRefusals() {
        sentence("Terms 3: 20: the first of these that holds, in the order told");
        FieldLine x = line();
        refused(x, 0, 3, 20, 7, 5, 0, 9, 0, 0, 0, 125);
        refused(x, 0, 3, 20, 14, 5, 0, 9, 0, 0, 0, 1, 5, 0, 9, 0, 0, 255, 255);
        refused(x, 0, 3, 20, 8, 5, 0, 9, 0, 0, 0, 1, 0);
    }

    private static void writeFiles() {
        writeParts();
        writeNothing();
        writeTooShort();
        writeByteCount();
        writePartsEnd();
        writePartKind();
        writePartFile();
        writePartBeyond();
        writeMost();
    }

    private static void writeParts() {
        sentence("Terms 3: 21: all are written in order; the same again");
        FieldLine x = line();
        int[] two = pdu(21, part(1, 8, 2, 255, 255, 3, 4), part(300, 119, 1, 9, 9));
        served(x, 0, two, two);
        due("value", x.record(0, 1, 8), 65535);
        due("value", x.record(0, 1, 9), 772);
        due("value", x.record(0, 300, 119), 2313);
        due("the one ahead", x.record(0, 1, 7), 263);
        int[] twice = pdu(21, part(1, 0, 1, 0, 1), part(1, 0, 1, 0, 2));
        served(x, 0, twice, twice);
        due("the latter one", x.record(0, 1, 0), 2);
    }

    private static void writeNothing() {
        sentence("Terms 3: 21: parts (of no values)");
        FieldLine x = line();
        int[] none = pdu(21, part(1, 10, 0), part(1, 0, 0));
        served(x, 0, none, none);
        due("value", x.record(0, 1, 0), 256);
        refused(x, 0, 2, pdu(21, part(1, 11, 0), part(1, 0, 0)));
    }

    private static void writeTooShort() {
        sentence("Terms 3: 21: L likewise");
        refused(line(), 0, 3, 21);
    }

    private static void writeByteCount() {
        sentence("Terms 3: 21: 3: b not 9 to 251, not b bytes");
        FieldLine x = line();
        refused(x, 0, 3, 21, 0);
        refused(x, 0, 3, 21, 7, 6, 0, 1, 0, 0, 0, 0);
        refused(x, 0, 3, 21, 8, 6, 0, 1, 0, 0, 0, 1, 1);
        refused(x, 0, 3, 21, 9, 6, 0, 1, 0, 0, 0, 1, 1);
        refused(x, 0, 3, 21, 9, 6, 0, 1, 0, 0, 0, 1, 1, 1, 1);
        refused(x, 0, 3, 21, 11, 6, 0, 1, 0, 0, 0, 1, 1, 1);
        refused(x, 0, 3, join(bytes(21, 252), repeat(0, 251)));
        due("none is written", x.record(0, 1, 0), 256);
        int[] nine = pdu(21, part(1, 0, 1, 1, 1));
        served(x, 0, nine, nine);
    }

    private static void writePartsEnd() {
        sentence("Terms 3: 21: 3: parts that don't end just there");
        FieldLine x = line();
        refused(x, 0, 3, 21, 9, 6, 0, 1, 0, 0, 0, 2, 1, 1);
        refused(x, 0, 3, 21, 9, 6, 0, 1, 0, 0, 0, 0, 1, 1);
        refused(x, 0, 3, 21, 10, 6, 0, 1, 0, 0, 0, 1, 1, 1, 1);
        refused(x, 0, 3, 21, 10, 6, 0, 1, 0, 0, 0, 2, 1, 1, 1);
        refused(x, 0, 3, 21, 9, 6, 0, 1, 0, 0, 255, 255, 1, 1);
        refused(x, 0, 3, 21, 9, 7, 0, 1, 0, 0, 255, 255, 1, 1);
        refused(x, 0, 3, 21, 15, 6, 0, 1, 0, 0, 0, 1, 1, 1, 6, 0, 1, 0, 0, 0);
        refused(x, 0, 3, 21, 16, 6, 0, 1, 0, 0, 0, 1, 1, 1, 6, 0, 1, 0, 0, 0, 1);
        due("none is written", x.record(0, 1, 0), 256);
    }

    private static void writePartKind() {
        sentence("Terms 3: 21: part by part 2 likewise: not 6");
        FieldLine x = line();
        refused(x, 0, 2, 21, 9, 7, 0, 1, 0, 0, 0, 1, 1, 1);
        refused(x, 0, 2, 21, 9, 5, 0, 1, 0, 0, 0, 1, 1, 1);
        refused(x, 0, 2, 21, 18, 6, 0, 1, 0, 0, 0, 1, 1, 1, 0, 0, 1, 0, 0, 0, 1, 1, 1);
        due("none is written", x.record(0, 1, 0), 256);
    }

    private static void writePartFile() {
        sentence("Terms 3: 21: part by part 2 likewise: no such file");
        FieldLine x = line();
        refused(x, 0, 2, pdu(21, part(2, 0, 1, 1, 1)));
        refused(x, 0, 2, pdu(21, part(1, 0, 1, 1, 1), part(301, 0, 1, 1, 1)));
        due("none is written", x.record(0, 1, 0), 256);
    }

    private static void writePartBeyond() {
        sentence("Terms 3: 21: part by part 2 likewise: from + n beyond it");
        FieldLine x = line();
        refused(x, 0, 2, pdu(21, part(1, 10, 1, 1, 1)));
        refused(x, 0, 2, pdu(21, part(1, 9, 2, 1, 1, 1, 1)));
        refused(x, 0, 2, pdu(21, part(1, 65535, 1, 1, 1)));
        refused(x, 0, 2, pdu(21, part(1, 0, 1, 5, 5), part(1, 10, 1, 1, 1)));
        due("none is written", x.record(0, 1, 0), 256);
        due("none is written", x.record(0, 1, 9), 265);
    }

    private static void writeMost() {
        sentence("Terms 3: 21: b 251");
        FieldLine x = line();
        refused(x, 0, 2, pdu(21, part(1, 0, 122, repeat(1, 244))));
        int[] longest = pdu(21, part(300, 0, 115, repeat(1, 230)), part(1, 0, 0), part(1, 0, 0));
        due("251", longest[1], 251);
        served(x, 0, longest, longest);
        due("value", x.record(0, 300, 114), 257);
        due("value", x.record(0, 300, 115), 0);
    }

    private static void queues() {
        queueValues();
        queueOfNone();
        queueWhole();
        queueWithout();
        queueTooFull();
    }

    private static void queueValues() {
        sentence("Terms 3: 24: 24, 2 and 2 n, n, values, the oldest first (they stay)");
        FieldLine x = line();
        x.queue(0, 500);
        x.push(0, 500, 300);
        x.push(0, 500, 65535);
        for (int i = 0; i < 2; i++) {
            served(x, 0, bytes(24, 1, 244), 24, 0, 6, 0, 2, 1, 44, 255, 255);
        }
    }

    private static void queueOfNone() {
        sentence("Terms 3: 24: (an empty QUEUE)");
        FieldLine x = line();
        x.queue(0, 0);
        x.queue(0, 65535);
        served(x, 0, bytes(24, 0, 0), 24, 0, 2, 0, 0);
        served(x, 0, bytes(24, 255, 255), 24, 0, 2, 0, 0);
    }

    private static void queueWhole() {
        sentence("Terms 3: 24: at (L)");
        FieldLine x = line();
        x.queue(0, 0);
        refused(x, 0, 3, 24);
        refused(x, 0, 3, 24, 0);
        refused(x, 0, 3, 24, 0, 0, 0);
        refused(x, 0, 3, 24, 9, 9, 0);
    }

    private static void queueWithout() {
        sentence("Terms 3: 24: 2: no QUEUE there");
        FieldLine x = line();
        refused(x, 0, 2, 24, 0, 0);
        x.queue(0, 500);
        refused(x, 0, 2, 24, 1, 245);
        refused(x, 0, 2, 24, 1, 243);
    }

    private static void queueTooFull() {
        sentence("Terms 3: 24: 3: more than 31 in it");
        FieldLine x = line();
        x.queue(0, 500);
        int[] want = {24, 0, 64, 0, 31};
        for (int i = 0; i < 31; i++) {
            x.push(0, 500, i);
            want = join(want, bytes(0, i));
        }
        served(x, 0, bytes(24, 1, 244), want);
        x.push(0, 500, 31);
        refused(x, 0, 3, 24, 1, 244);
    }

    private static void texts() {
        textsNoneBehind();
        textsNot14();
        textsNotThree();
        textsCode();
        textsOfIds();
        textsFromAnId();
        textsFromTheLeast();
        textsWhole();
        textsTen();
        textsNone();
        textAlone();
        textAloneWithout();
        level();
    }

    private static FieldLine named(int... ids) {
        FieldLine x = new FieldLine();
        x.device(5, 0);
        for (int id : ids) {
            name(x, 0, id, id);
        }
        return x;
    }

    private static void textsNoneBehind() {
        sentence("Terms 3: 43: 3: none behind F");
        refused(named(0), 0, 3, 43);
    }

    private static void textsNot14() {
        sentence("Terms 3: 43: 1: not 14");
        FieldLine x = named(0);
        int[] wrong = {0, 13, 15, 255};
        for (int v : wrong) {
            refused(x, 0, 1, 43, v);
            refused(x, 0, 1, 43, v, 1, 0);
            refused(x, 0, 1, 43, v, 9, 0, 0);
        }
    }

    private static void textsNotThree() {
        sentence("Terms 3: 43: 3: not just these three");
        FieldLine x = named(0);
        refused(x, 0, 3, 43, 14);
        refused(x, 0, 3, 43, 14, 1);
        refused(x, 0, 3, 43, 14, 4);
        refused(x, 0, 3, 43, 14, 1, 0, 0);
        refused(x, 0, 3, 43, 14, 4, 9, 0);
    }

    private static void textsCode() {
        sentence("Terms 3: 43: 3: code not 1 to 4");
        FieldLine x = named(0);
        refused(x, 0, 3, 43, 14, 0, 0);
        refused(x, 0, 3, 43, 14, 5, 0);
        refused(x, 0, 3, 43, 14, 255, 0);
        for (int code = 1; code <= 4; code++) {
            served(x, 0, bytes(43, 14, code, 0), 43, 14, code, 129, 0, 0, 1, 0, 1, 0);
        }
    }

    private static void textsOfIds() {
        sentence("Terms 3: 43: texts of ids 0 to 2 (code 1), 0 to 6 (2), all (3)");
        FieldLine x = named(255, 6, 3, 2, 128, 0);
        served(x, 0, bytes(43, 14, 1, 0), 43, 14, 1, 131, 0, 0, 2, 0, 1, 0, 2, 1, 2);
        served(x, 0, bytes(43, 14, 2, 0), 43, 14, 2, 131, 0, 0, 4, 0, 1, 0, 2, 1, 2, 3, 1, 3, 6, 1, 6);
        served(x, 0, bytes(43, 14, 3, 0), 43, 14, 3, 131, 0, 0, 6, 0, 1, 0, 2, 1, 2, 3, 1, 3, 6, 1, 6,
                128, 1, 128, 255, 1, 255);
    }

    private static void textsFromAnId() {
        sentence("Terms 3: 43: by ids from id on");
        FieldLine x = named(255, 6, 3, 2, 128, 0);
        served(x, 0, bytes(43, 14, 1, 2), 43, 14, 1, 131, 0, 0, 1, 2, 1, 2);
        served(x, 0, bytes(43, 14, 2, 3), 43, 14, 2, 131, 0, 0, 2, 3, 1, 3, 6, 1, 6);
        served(x, 0, bytes(43, 14, 2, 6), 43, 14, 2, 131, 0, 0, 1, 6, 1, 6);
        served(x, 0, bytes(43, 14, 3, 128), 43, 14, 3, 131, 0, 0, 2, 128, 1, 128, 255, 1, 255);
        served(x, 0, bytes(43, 14, 3, 255), 43, 14, 3, 131, 0, 0, 1, 255, 1, 255);
    }

    private static void textsFromTheLeast() {
        sentence("Terms 3: 43: from the least one, if there is no text of that id among these");
        FieldLine x = named(255, 6, 3, 2, 128, 0);
        int[] first = {43, 14, 1, 131, 0, 0, 2, 0, 1, 0, 2, 1, 2};
        int[] notFirst = {1, 3, 6, 7, 128, 255};
        for (int id : notFirst) {
            served(x, 0, bytes(43, 14, 1, id), first);
        }
        int[] second = {43, 14, 2, 131, 0, 0, 4, 0, 1, 0, 2, 1, 2, 3, 1, 3, 6, 1, 6};
        int[] notSecond = {1, 4, 7, 128, 255};
        for (int id : notSecond) {
            served(x, 0, bytes(43, 14, 2, id), second);
        }
        FieldLine y = named(6, 200);
        int[] notThird = {0, 7, 199, 201, 255};
        for (int id : notThird) {
            served(y, 0, bytes(43, 14, 3, id), 43, 14, 3, 131, 0, 0, 2, 6, 1, 6, 200, 1, 200);
        }
    }

    private static void textsWhole() {
        sentence("Terms 3: 43: as many as go whole into an answer of 253 bytes; 255 if more would come, the id");
        FieldLine x = named();
        for (int id = 0; id < 7; id++) {
            name(x, 0, id, repeat(id, 39));
        }
        int[] six = {43, 14, 2, 130, 255, 6, 6};
        for (int id = 0; id < 6; id++) {
            six = join(six, bytes(id, 39), repeat(id, 39));
        }
        due("just 253 bytes", six.length, 253);
        served(x, 0, bytes(43, 14, 2, 0), six);
        served(x, 0, bytes(43, 14, 2, 6), join(bytes(43, 14, 2, 130, 0, 0, 1, 6, 39), repeat(6, 39)));
        name(x, 0, 5, repeat(5, 40));
        name(x, 0, 6, 9);
        load(x, 43, 14, 3, 0);
        due("the sixth does not go whole, the seventh waits for it", x.serve(0), 7 + 5 * 41);
        due("more would come", x.answer(4), 255);
        due("the id that would come", x.answer(5), 5);
        due("how many", x.answer(6), 5);
        load(x, 43, 14, 3, 1);
        due("from the second on", x.serve(0), 7 + 4 * 41 + 42 + 3);
        due("no more would come", x.answer(4), 0);
        due("no id", x.answer(5), 0);
    }

    private static void textsTen() {
        sentence("Terms 3: 43: all (3): as many as go whole (the ten that there may be)");
        int[] ids = {0, 1, 2, 3, 4, 5, 6, 128, 200, 255};
        int[] want = {43, 14, 3, 131, 0, 0, 10};
        for (int id : ids) {
            want = join(want, bytes(id, 1, id));
        }
        served(named(ids), 0, bytes(43, 14, 3, 0), want);
    }

    private static void textsNone() {
        sentence("Terms 3: 43: else 0, how many (without a text)");
        FieldLine x = named();
        for (int code = 1; code <= 3; code++) {
            served(x, 0, bytes(43, 14, code, 0), 43, 14, code, 129, 0, 0, 0);
            served(x, 0, bytes(43, 14, code, 255), 43, 14, code, 129, 0, 0, 0);
        }
        FieldLine y = named(3, 128);
        served(y, 0, bytes(43, 14, 1, 3), 43, 14, 1, 131, 0, 0, 0);
        FieldLine z = named(128);
        served(z, 0, bytes(43, 14, 2, 128), 43, 14, 2, 131, 0, 0, 0);
    }

    private static void textAlone() {
        sentence("Terms 3: 43: code 4: that one alone");
        FieldLine x = named(0, 6, 128, 255);
        int[] ids = {0, 6, 128, 255};
        for (int id : ids) {
            served(x, 0, bytes(43, 14, 4, id), 43, 14, 4, 131, 0, 0, 1, id, 1, id);
        }
    }

    private static void textAloneWithout() {
        sentence("Terms 3: 43: code 4: 2: no such text");
        FieldLine x = named(0, 6, 128, 254);
        int[] ids = {1, 5, 7, 127, 129, 255};
        for (int id : ids) {
            refused(x, 0, 2, 43, 14, 4, id);
        }
    }

    private static void level() {
        sentence("Terms 3: LEVEL: 131 if there is a text of an id above 6, else 130 above 2, else 129");
        int[][] cases = {{129}, {129, 0}, {129, 2}, {130, 3}, {130, 6}, {131, 128}, {131, 255}, {130, 6, 0}, {130, 3, 0},
            {131, 128, 0}, {131, 0, 255, 3}};
        for (int[] c : cases) {
            FieldLine x = named(java.util.Arrays.copyOfRange(c, 1, c.length));
            load(x, 43, 14, 1, 0);
            x.serve(0);
            due("of " + java.util.Arrays.toString(c), x.answer(3), c[0]);
        }
    }
}
