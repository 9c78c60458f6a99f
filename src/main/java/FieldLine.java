/** A field line: one master and up to six devices on one wire. */
public final class FieldLine {
    /** There is none. */
    public static final int NONE = -1;

    private static final int MOST_DEVICES = 6;
    private static final int MOST_TAPE = 400;
    private static final int FEED_BYTES = 20;
    private static final int MOST_PDU = 253;
    private static final int MOST_FRAME = 256;
    private static final int MOST_PLACES = 400;
    private static final int MOST_TEXT = 40;
    private static final int MOST_QUEUE = 40;
    private static final int MOST_FILE = 120;
    private static final int MOST_TICKS = 1000;
    private static final int TOP_ADDRESS = 247;
    private static final int TOP_WORD = 65535;

    /** What the wire's value is for a coil that a request switches on. */
    private static final int COIL_ON = 65280;
    private static final int RULE_TICKS = 20;
    private static final int FRAME_GAP = 14;
    private static final int BYTE_GAP = 6;

    private static final int NOBODY = 0;
    private static final int THE_MASTER = 1;
    private static final int FIRST_DEVICE = 2;

    private static final int BUSY_CODE = 6;
    private static final int PLACE_CODE = 2;
    private static final int VALUE_CODE = 3;
    private static final int FUNCTION_CODE = 1;

    private final Row tape;
    private final Row lastAnswer;
    /** Rows that each message uses anew, so that a tick makes no objects. */
    private final Row heard;
    private final Row coming;
    private final Device[] devices;
    private int deviceCount;
    private final Wire wire;
    private final Master master;
    private int clock;

    public FieldLine() {
        tape = new Row(MOST_TAPE);
        lastAnswer = new Row(MOST_PDU);
        heard = new Row(MOST_PDU);
        coming = new Row(MOST_PDU);
        devices = new Device[MOST_DEVICES];
        deviceCount = 0;
        wire = new Wire();
        master = new Master();
        clock = 0;
    }

    public int feed(int a, int b, int c, int d, int e) {
        if (tape.n + FEED_BYTES > MOST_TAPE) {
            return NONE;
        }
        feedNumber(a);
        feedNumber(b);
        feedNumber(c);
        feedNumber(d);
        feedNumber(e);
        return tape.n;
    }

    private void feedNumber(int v) {
        tape.addWord(v >>> 16);
        tape.addWord(v & TOP_WORD);
    }

    public int end(int n) {
        if (n < 0 || n > tape.n) {
            return NONE;
        }
        tape.cut(n);
        return n;
    }

    public int sum() {
        return tape.sumOf(tape.n);
    }

    public int device(int address, int lag) {
        if (deviceCount >= MOST_DEVICES || !within(address, 1, TOP_ADDRESS) || !within(lag, 0, 2000)
                || isTaken(address)) {
            return NONE;
        }
        devices[deviceCount] = new Device(deviceCount, address, lag);
        deviceCount++;
        return deviceCount - 1;
    }

    private boolean isTaken(int address) {
        for (int i = 0; i < deviceCount; i++) {
            Device other = deviceOf(i);
            if (other != null && other.address == address) {
                return true;
            }
        }
        return false;
    }

    /** Null without such a device. */
    private Device deviceOf(int d) {
        return d >= 0 && d < deviceCount && d < devices.length ? devices[d] : null;
    }

    /** Null without such a device or kind. */
    private Bank bankOf(int d, int kind) {
        Device device = deviceOf(d);
        return device == null ? null : device.bankOfKind(kind);
    }

    private static boolean within(int v, int least, int greatest) {
        return v >= least && v <= greatest;
    }

    public boolean bank(int d, int kind, int from, int n) {
        Bank bank = bankOf(d, kind);
        if (bank == null || !within(from, 0, TOP_WORD) || !within(n, 0, MOST_PLACES) || from + n > TOP_WORD + 1) {
            return false;
        }
        bank.makeAnew(from, n);
        return true;
    }

    public boolean put(int d, int kind, int at, int v) {
        Bank bank = bankOf(d, kind);
        if (bank == null || !bank.has(at, 1)) {
            return false;
        }
        bank.write(at, v);
        return true;
    }

    public int get(int d, int kind, int at) {
        Bank bank = bankOf(d, kind);
        return bank == null ? NONE : bank.value(at);
    }

    public boolean limit(int d, int from, int n, int low, int high) {
        Device device = deviceOf(d);
        if (device == null || !within(from, 0, TOP_WORD) || !within(n, 1, TOP_WORD + 1) || from + n > TOP_WORD + 1) {
            return false;
        }
        if (!within(low, 0, TOP_WORD) || !within(high, low, TOP_WORD)) {
            return false;
        }
        return device.addLimit(from, n, low, high);
    }

    public boolean file(int d, int number, int n) {
        Device device = deviceOf(d);
        if (device == null || !within(number, 1, TOP_WORD) || !within(n, 1, MOST_FILE)) {
            return false;
        }
        Row made = device.files.findOrMake(number);
        if (made == null) {
            return false;
        }
        made.becomeZeros(n);
        return true;
    }

    public int record(int d, int number, int k) {
        Device device = deviceOf(d);
        Row values = device == null ? null : device.files.find(number);
        return values == null || !within(k, 0, values.n - 1) ? NONE : values.at(k);
    }

    public boolean queue(int d, int at) {
        Device device = deviceOf(d);
        if (device == null || !within(at, 0, TOP_WORD) || device.queues.find(at) != null) {
            return false;
        }
        return device.queues.findOrMake(at) != null;
    }

    public int push(int d, int at, int v) {
        Device device = deviceOf(d);
        Row values = device == null ? null : device.queues.find(at);
        if (values == null || values.n >= MOST_QUEUE) {
            return NONE;
        }
        values.add(v & TOP_WORD);
        return values.n;
    }

    public boolean name(int d, int id) {
        Device device = deviceOf(d);
        if (device == null || tape.n > MOST_TEXT || !(within(id, 0, 6) || within(id, 128, 255))) {
            return false;
        }
        Row text = device.texts.findOrMake(id);
        if (text == null) {
            return false;
        }
        text.become(tape, 0, tape.n);
        tape.clear();
        return true;
    }

    public boolean rule(int d, int kind, int a, int b, int c) {
        Device device = deviceOf(d);
        if (device == null || !within(kind, 0, 6)) {
            return false;
        }
        if (!within(a, 0, TOP_WORD) || !within(b, 0, TOP_WORD) || !within(c, 0, TOP_WORD)) {
            return false;
        }
        return device.addRule(kind, a, b, c);
    }

    public boolean busy(int d, int n) {
        Device device = deviceOf(d);
        if (device == null || !within(n, 0, 9)) {
            return false;
        }
        device.busy = n;
        return true;
    }

    public int serve(int d) {
        Device device = deviceOf(d);
        if (device == null || !tapeIsPdu()) {
            return NONE;
        }
        Service.served(device, tape, lastAnswer);
        tape.clear();
        return lastAnswer.n;
    }

    private boolean tapeIsPdu() {
        return within(tape.n, 1, MOST_PDU);
    }

    public int answer(int k) {
        return lastAnswer.orNone(k);
    }

    public boolean settings(int attempts, int timeout, int turn) {
        if (!within(attempts, 1, 9) || !within(timeout, 20, 5000) || !within(turn, 0, 2000)) {
            return false;
        }
        master.mostAttempts = attempts;
        master.timeout = timeout;
        master.turn = turn;
        return true;
    }

    public int request(int address) {
        if (!within(address, 0, TOP_ADDRESS) || !tapeIsPdu()) {
            return NONE;
        }
        int number = master.addRequest(address, tape);
        if (number != NONE) {
            tape.clear();
        }
        return number;
    }

    public int scan(int every, int address) {
        if (!within(every, 50, 30000) || !within(address, 0, TOP_ADDRESS) || !tapeIsPdu()) {
            return NONE;
        }
        int number = master.addScan(every, clock + every, address, tape);
        if (number != NONE) {
            tape.clear();
        }
        return number;
    }

    public boolean harm(int n, int x) {
        return within(n, 0, 2000) && within(x, 1, 340) && wire.tellHarm(n, x);
    }

    public int tick(int n) throws IllegalArgumentException {
        if (!within(n, 1, MOST_TICKS)) {
            throw new IllegalArgumentException("not 1 to 1000 ticks");
        }
        int before = wire.done;
        for (int i = 0; i < n; i++) {
            step();
        }
        return wire.done - before;
    }

    private void step() {
        if (clock % RULE_TICKS == 0) {
            applyRules();
        }
        master.runScans(clock);
        if (wire.sender == NOBODY && wire.idle >= FRAME_GAP) {
            beginFrame();
        }
        master.waitOneTick(wire.sender != NOBODY);
        shortenLags();
        int who = wire.sender;
        int did = wire.advance();
        if (did == Wire.HEARD) {
            spread(who, wire.heard);
        }
        if (who == THE_MASTER && wire.sender == NOBODY) {
            master.startWaiting();
        }
        if (did == Wire.SILENT) {
            silence(who);
        }
        clock++;
    }

    private void applyRules() {
        for (int i = 0; i < deviceCount; i++) {
            Device device = deviceOf(i);
            if (device != null) {
                device.applyRules();
            }
        }
    }

    private void beginFrame() {
        Job first = master.firstRequest();
        if (master.phase == Master.FREE && first != null) {
            first.attempts++;
            master.phase = Master.SENDS;
            wire.startFrame(THE_MASTER, first.address, first.pdu);
            return;
        }
        for (int i = 0; i < deviceCount; i++) {
            Device device = deviceOf(i);
            if (device != null && device.reply.n > 0 && device.replyLag == 0) {
                wire.startFrame(FIRST_DEVICE + i, device.address, device.reply);
                device.reply.clear();
                return;
            }
        }
    }

    private void shortenLags() {
        for (int i = 0; i < deviceCount; i++) {
            Device device = deviceOf(i);
            if (device != null && device.replyLag > 0) {
                device.replyLag--;
            }
        }
    }

    private void spread(int who, int b) {
        if (who != THE_MASTER) {
            master.ear.hear(b);
        }
        for (int i = 0; i < deviceCount; i++) {
            Device device = deviceOf(i);
            if (device != null && who != FIRST_DEVICE + i) {
                device.ear.hear(b);
            }
        }
    }

    private void silence(int who) {
        if (who != THE_MASTER && master.ear.frameEndsNow()) {
            master.takeFrame(coming);
            master.ear.forget();
        }
        for (int i = 0; i < deviceCount; i++) {
            Device device = deviceOf(i);
            if (device != null && who != FIRST_DEVICE + i && device.ear.frameEndsNow()) {
                if (device.countFrame()) {
                    takeMessage(device);
                }
                device.ear.forget();
            }
        }
    }

    private void takeMessage(Device device) {
        Row frame = device.ear.row;
        boolean toAll = frame.at(0) == 0;
        heard.become(frame, 1, frame.n - 3);
        coming.clear();
        int code = 0;
        if (device.deaf) {
            if (!toAll && device.busy == 0 && Shape.isRestart(heard)) {
                Service.served(device, heard, coming);
            }
            coming.clear();
        } else if (toAll) {
            if (Service.isForAll(heard.at(0))) {
                Service.served(device, heard, coming);
            }
            coming.clear();
        } else {
            code = Service.served(device, heard, coming);
        }
        device.keepReply(coming, code);
    }

    public int result(int what) {
        Job first = master.firstResult();
        if (first == null) {
            return NONE;
        }
        switch (what) {
            case 0: return first.number;
            case 1: return first.outcome;
            case 2: return first.code;
            case 3: return first.attempts;
            case 4: return first.pdu.n;
            case 5: return first.address;
            default: return NONE;
        }
    }

    public int data(int k) throws IndexOutOfBoundsException {
        Job first = master.firstResult();
        if (first == null || k < 0 || k >= first.pdu.n) {
            throw new IndexOutOfBoundsException("no such byte");
        }
        return first.pdu.at(k);
    }

    public boolean take() {
        return master.dropResult();
    }

    public int state(int what) {
        switch (what) {
            case 0: return clock;
            case 1: return wire.sender;
            case 2: return Math.min(wire.idle, 1000);
            case 3: return master.phase;
            case 4: return master.phase == Master.WAITS ? master.waited : 0;
            case 5: return master.requestCount;
            case 6: return firstAttempts();
            case 7: return master.resultCount;
            case 8: return master.lost;
            case 9: return master.stray;
            case 10: return wire.done;
            case 11: return wire.harmCount;
            case 12: return deviceCount;
            case 13: return master.scanCount;
            case 14: return tape.n;
            case 15: return lastAnswer.n;
            case 16: return wire.frames;
            default: return NONE;
        }
    }

    private int firstAttempts() {
        Job first = master.firstRequest();
        return first == null ? 0 : first.attempts;
    }

    public int counter(int d, int what) {
        Device device = deviceOf(d);
        if (device == null) {
            return NONE;
        }
        switch (what) {
            case 9: return device.deaf ? 1 : 0;
            case 10: return device.log.n;
            case 11: return device.busy;
            case 12: return device.reply.n > 0 ? device.reply.n + 3 : 0;
            case 13: return device.replyLag;
            case 14: return device.ear.row.n;
            case 15: return device.ear.spoilt ? 1 : 0;
            case 16: return device.address;
            default: return within(what, 0, 8) ? device.counterOf(what) : NONE;
        }
    }

    public int event(int d, int k) {
        Device device = deviceOf(d);
        return device == null || k < 0 || k >= device.log.n ? NONE : device.log.at(device.log.n - 1 - k);
    }

    public int sent(int k) {
        return wire.frame.orNone(k);
    }

    /** Numbers one behind the other, as many as there is room for; what is read beyond them is 0. */
    private static final class Row {
        private final int[] cell;
        private int n;

        Row(int most) {
            cell = new int[most > 0 ? most : 0];
            n = 0;
        }

        int at(int i) {
            return i >= 0 && i < n ? cell[i] : 0;
        }

        int orNone(int i) {
            return i >= 0 && i < n ? cell[i] : NONE;
        }

        /** Two bytes, the higher one first. */
        int word(int i) {
            return i >= 0 && i < n - 1 ? cell[i] * 256 + cell[i + 1] : 0;
        }

        void change(int i, int v) {
            if (i >= 0 && i < n) {
                cell[i] = v;
            }
        }

        void add(int v) {
            if (n < cell.length) {
                cell[n] = v;
                n++;
            }
        }

        void addWord(int v) {
            if (n + 1 < cell.length) {
                cell[n] = v >> 8 & 255;
                cell[n + 1] = v & 255;
                n += 2;
            }
        }

        /** Of a full row the oldest goes. */
        void addLatest(int v) {
            if (n > 0 && n >= cell.length) {
                for (int i = 1; i < n; i++) {
                    cell[i - 1] = cell[i];
                }
                n--;
            }
            if (n < cell.length) {
                cell[n] = v;
                n++;
            }
        }

        void clear() {
            n = 0;
        }

        void cut(int count) {
            if (count >= 0 && count < n) {
                n = count;
            }
        }

        void becomeZeros(int count) {
            n = Math.max(0, Math.min(count, cell.length));
            for (int i = 0; i < n; i++) {
                cell[i] = 0;
            }
        }

        void become(Row other, int from, int count) {
            n = 0;
            addPart(other, from, count);
        }

        void addPart(Row other, int from, int count) {
            for (int i = 0; i < count && n < cell.length; i++) {
                int k = from + i;
                cell[n] = k >= 0 && k < other.n ? other.cell[k] : 0;
                n++;
            }
        }

        boolean beginsAs(Row other, int count) {
            if (n < count || other.n < count) {
                return false;
            }
            for (int i = 0; i < count; i++) {
                if (cell[i] != other.cell[i]) {
                    return false;
                }
            }
            return true;
        }

        /** The SUM of the first ones. */
        int sumOf(int count) {
            int c = TOP_WORD;
            for (int i = 0; i < count && i < n; i++) {
                c ^= cell[i];
                for (int bit = 0; bit < 8; bit++) {
                    c = (c & 1) == 1 ? c >> 1 ^ 40961 : c >> 1;
                }
            }
            return c;
        }
    }

    /** Rows by keys, as many as there is room for. */
    private static final class Shelf {
        private final int[] keys;
        private final Row[] rows;
        private final int rowMost;
        private int n;

        Shelf(int most, int rowMost) {
            keys = new int[most > 0 ? most : 0];
            rows = new Row[most > 0 ? most : 0];
            this.rowMost = rowMost;
            n = 0;
        }

        /** Null without one. */
        Row find(int key) {
            for (int i = 0; i < n; i++) {
                if (keys[i] == key) {
                    return rows[i];
                }
            }
            return null;
        }

        /** Null if there is none and no room. */
        Row findOrMake(int key) {
            Row found = find(key);
            if (found != null || n >= keys.length || n >= rows.length) {
                return found;
            }
            Row made = new Row(rowMost);
            keys[n] = key;
            rows[n] = made;
            n++;
            return made;
        }

        /** The least key of those from one to another; NONE without one. */
        int leastKey(int from, int to) {
            int least = NONE;
            for (int i = 0; i < n; i++) {
                if (keys[i] >= from && keys[i] <= to && (least == NONE || keys[i] < least)) {
                    least = keys[i];
                }
            }
            return least;
        }

        /** NONE without one. */
        int greatestKey() {
            int greatest = NONE;
            for (int i = 0; i < n; i++) {
                if (keys[i] > greatest) {
                    greatest = keys[i];
                }
            }
            return greatest;
        }
    }

    /** Places one behind the other, of bits or of words. */
    private static final class Bank {
        private final int[] cell;
        private final int mask;
        private int from;
        private int n;

        Bank(int mask) {
            cell = new int[MOST_PLACES];
            this.mask = mask;
            from = 0;
            n = 0;
        }

        void makeAnew(int from, int n) {
            this.from = from;
            this.n = Math.max(0, Math.min(n, cell.length));
            for (int i = 0; i < this.n; i++) {
                cell[i] = 0;
            }
        }

        boolean has(int at, int count) {
            return count > 0 && at >= from && at - from <= n - count;
        }

        int value(int at) {
            return at >= from && at - from < n ? cell[at - from] : NONE;
        }

        void write(int at, int v) {
            if (at >= from && at - from < n) {
                cell[at - from] = v & mask;
            }
        }

        /** Bits of up to eight places, the first one lowest; those that aren't there are 0. */
        int bits(int at, int count) {
            int bits = 0;
            for (int i = 0; i < count && i < 8; i++) {
                int k = at - from + i;
                if (k >= 0 && k < n && cell[k] == 1) {
                    bits |= 1 << i;
                }
            }
            return bits;
        }
    }

    /** What a station hears. */
    private static final class Station {
        private final Row row;
        private int quiet;
        private boolean spoilt;
        private boolean overrun;

        Station() {
            row = new Row(MOST_FRAME);
            quiet = FRAME_GAP;
            spoilt = false;
            overrun = false;
        }

        void hear(int b) {
            if (row.n > 0 && quiet > BYTE_GAP) {
                spoilt = true;
            }
            if (row.n >= MOST_FRAME) {
                spoilt = true;
                overrun = true;
            } else {
                row.add(b);
            }
            quiet = 0;
        }

        /** A tick of silence: whether the row's frame ends with it. */
        boolean frameEndsNow() {
            quiet++;
            return quiet == FRAME_GAP && row.n > 0;
        }

        boolean isGood() {
            if (spoilt || row.n < 4) {
                return false;
            }
            return row.sumOf(row.n - 2) == row.at(row.n - 2) + row.at(row.n - 1) * 256;
        }

        void forget() {
            row.clear();
            spoilt = false;
            overrun = false;
        }
    }

    /** The frame on its way, and the harms that its bytes meet. */
    private static final class Wire {
        /** A tick in which no station hears anything. */
        private static final int SILENT = 0;
        /** A tick of a byte that is not yet done. */
        private static final int LOUD = 1;
        /** A byte's last tick: the others hear it. */
        private static final int HEARD = 2;

        private static final int BYTE_TICKS = 4;
        private static final int LOST = 256;
        private static final int MOST_HARMS = 64;

        private final Row frame;
        private int sender;
        private int idle;
        private int next;
        private int late;
        private int left;
        private int harm;
        private int heard;
        private int begun;
        private int done;
        private int frames;
        private final int[] harmedBytes;
        private final int[] harms;
        private int harmCount;

        Wire() {
            frame = new Row(MOST_FRAME);
            sender = NOBODY;
            idle = FRAME_GAP;
            harmedBytes = new int[MOST_HARMS];
            harms = new int[MOST_HARMS];
        }

        void startFrame(int who, int address, Row pdu) {
            frame.clear();
            frame.add(address);
            frame.addPart(pdu, 0, pdu.n);
            int sum = frame.sumOf(frame.n);
            frame.add(sum & 255);
            frame.add(sum >> 8);
            sender = who;
            next = 0;
            left = 0;
            late = 0;
            frames++;
        }

        /** One tick of who sends, or of nobody: SILENT, LOUD or HEARD. */
        int advance() {
            if (sender == NOBODY) {
                idle++;
                return SILENT;
            }
            if (left == 0) {
                beginByte();
            }
            if (late > 0) {
                late--;
                return SILENT;
            }
            left--;
            if (left == 0) {
                finishByte();
            }
            if (harm == LOST) {
                return SILENT;
            }
            return left == 0 ? HEARD : LOUD;
        }

        private void beginByte() {
            harm = takeHarm();
            late = Math.max(0, harm - LOST);
            left = BYTE_TICKS;
            begun++;
        }

        private void finishByte() {
            heard = harm < LOST ? frame.at(next) ^ harm : frame.at(next);
            done++;
            next++;
            if (next >= frame.n) {
                sender = NOBODY;
                idle = 0;
            }
        }

        /** The harm of the byte that begins; 0 without one. */
        private int takeHarm() {
            int i = indexOfHarm(begun);
            if (i < 0 || i >= harmCount) {
                return 0;
            }
            int x = harms[i];
            harmCount--;
            harmedBytes[i] = harmedBytes[harmCount];
            harms[i] = harms[harmCount];
            return x;
        }

        private int indexOfHarm(int number) {
            for (int i = 0; i < harmCount; i++) {
                if (harmedBytes[i] == number) {
                    return i;
                }
            }
            return NONE;
        }

        boolean tellHarm(int ahead, int x) {
            int i = indexOfHarm(begun + ahead);
            if (i < 0) {
                if (harmCount >= MOST_HARMS) {
                    return false;
                }
                i = harmCount;
                harmCount++;
            }
            harmedBytes[i] = begun + ahead;
            harms[i] = x;
            return true;
        }
    }

    /** A request or its result, the row being the request's PDU or the answer that fitted. */
    private static final class Job {
        private final Row pdu;
        private int number;
        private int address;
        private int attempts;
        private int outcome;
        private int code;

        Job() {
            pdu = new Row(MOST_PDU);
        }
    }

    /** A request that comes again and again. */
    private static final class Scan {
        private final Row pdu;
        private final int every;
        private final int address;
        private int time;
        private int former;

        Scan(int every, int time, int address, Row pdu) {
            this.pdu = new Row(MOST_PDU);
            this.pdu.become(pdu, 0, pdu.n);
            this.every = every;
            this.address = address;
            this.time = time;
            former = NONE;
        }
    }

    /** Who asks: its requests, results and scans. */
    private static final class Master {
        private static final int FREE = 0;
        private static final int SENDS = 1;
        private static final int WAITS = 2;

        private static final int DONE = 0;
        private static final int REFUSED = 1;
        private static final int FAILED = 2;

        private static final int NO_ANSWER = 1;
        private static final int BAD_FRAME = 2;
        private static final int NO_FIT = 3;
        private static final int WAS_BUSY = 4;

        private static final int MOST_REQUESTS = 16;
        private static final int MOST_RESULTS = 32;
        private static final int MOST_SCANS = 8;

        private final Station ear;
        private int phase;
        private int waited;
        private int mostAttempts;
        private int timeout;
        private int turn;
        /** Rings whose jobs are made when first needed and then used again. */
        private final Job[] requests;
        private int requestHead;
        private int requestCount;
        private int nextNumber;
        private final Job[] results;
        private int resultHead;
        private int resultCount;
        private int lost;
        private int stray;
        private final Scan[] scans;
        private int scanCount;

        Master() {
            ear = new Station();
            phase = FREE;
            mostAttempts = 3;
            timeout = 200;
            turn = 40;
            requests = new Job[MOST_REQUESTS];
            results = new Job[MOST_RESULTS];
            scans = new Scan[MOST_SCANS];
        }

        /** Null without one. */
        Job firstRequest() {
            return requestCount > 0 && requestHead < MOST_REQUESTS ? requests[requestHead] : null;
        }

        /** Null without one. */
        Job firstResult() {
            return resultCount > 0 && resultHead < MOST_RESULTS ? results[resultHead] : null;
        }

        boolean dropResult() {
            if (resultCount == 0) {
                return false;
            }
            resultHead = (resultHead + 1) % MOST_RESULTS;
            resultCount--;
            return true;
        }

        /** The request's number; NONE without room. */
        int addRequest(int address, Row pdu) {
            if (requestCount >= MOST_REQUESTS) {
                return NONE;
            }
            int place = (requestHead + requestCount) % MOST_REQUESTS;
            Job job = requests[place];
            if (job == null) {
                job = new Job();
                requests[place] = job;
            }
            requestCount++;
            job.number = nextNumber;
            job.address = address;
            job.attempts = 0;
            job.pdu.become(pdu, 0, pdu.n);
            nextNumber++;
            return job.number;
        }

        /** The scan's number; NONE without room. */
        int addScan(int every, int time, int address, Row pdu) {
            if (scanCount >= MOST_SCANS) {
                return NONE;
            }
            scans[scanCount] = new Scan(every, time, address, pdu);
            scanCount++;
            return scanCount - 1;
        }

        void runScans(int clock) {
            for (int i = 0; i < scanCount; i++) {
                Scan scan = scans[i];
                if (scan == null || clock < scan.time) {
                    continue;
                }
                scan.time += scan.every;
                if (requestCount < MOST_REQUESTS && !isInRow(scan.former)) {
                    scan.former = addRequest(scan.address, scan.pdu);
                }
            }
        }

        private boolean isInRow(int number) {
            for (int i = 0; i < requestCount; i++) {
                Job job = requests[(requestHead + i) % MOST_REQUESTS];
                if (job != null && job.number == number) {
                    return true;
                }
            }
            return false;
        }

        void startWaiting() {
            phase = WAITS;
            waited = 0;
        }

        void waitOneTick(boolean somebodySends) {
            Job first = firstRequest();
            if (phase != WAITS || first == null) {
                return;
            }
            waited++;
            if (first.address == 0) {
                if (waited >= turn) {
                    finish(first, DONE, 0, null);
                }
            } else if (waited >= timeout && !somebodySends && ear.row.n == 0) {
                fail(first, NO_ANSWER);
            }
        }

        /** A frame ended here; a is a row to use for its PDU. */
        void takeFrame(Row a) {
            Job first = firstRequest();
            if (phase != WAITS || first == null || first.address == 0) {
                stray++;
                return;
            }
            if (!ear.isGood()) {
                fail(first, BAD_FRAME);
                return;
            }
            if (ear.row.at(0) != first.address) {
                stray++;
                return;
            }
            a.become(ear.row, 1, ear.row.n - 3);
            if (Shape.isRefusal(first.pdu, a)) {
                if (a.at(1) == BUSY_CODE) {
                    fail(first, WAS_BUSY);
                } else {
                    finish(first, REFUSED, a.at(1), null);
                }
            } else if (Shape.fits(first.pdu, a)) {
                finish(first, DONE, 0, a);
            } else {
                fail(first, NO_FIT);
            }
        }

        private void fail(Job first, int why) {
            phase = FREE;
            if (first.attempts >= mostAttempts) {
                finish(first, FAILED, why, null);
            }
        }

        /** The first request goes; the answer is null but for one that fitted. */
        private void finish(Job first, int outcome, int code, Row answer) {
            phase = FREE;
            int left = requestHead;
            requestHead = (requestHead + 1) % MOST_REQUESTS;
            requestCount--;
            if (resultCount >= MOST_RESULTS) {
                lost++;
                return;
            }
            int place = (resultHead + resultCount) % MOST_RESULTS;
            resultCount++;
            // The two rings change jobs, so that no more are made than both can hold.
            requests[left] = results[place];
            results[place] = first;
            first.outcome = outcome;
            first.code = code;
            first.pdu.clear();
            if (answer != null) {
                first.pdu.addPart(answer, 0, answer.n);
            }
        }
    }

    /** A device: what it keeps, and what it notes of frames. */
    private static final class Device {
        private static final int MOST_LIMITS = 8;
        private static final int MOST_RULES = 12;
        private static final int COUNTERS = 9;
        private static final int LOG_EVENTS = 64;

        private final int number;
        private final int address;
        private final int lag;
        private final Bank coils;
        private final Bank contacts;
        private final Bank registers;
        private final Bank gauges;
        /** Four numbers each: first place, last place, least, greatest value. */
        private final int[] limits;
        private int limitCount;
        private final Shelf files;
        private final Shelf queues;
        private final Shelf texts;
        /** Four numbers each: kind, a, b, c. */
        private final Row rules;
        private final int[] counters;
        private final Row log;
        private final Station ear;
        /** Empty without a reply. */
        private final Row reply;
        private int replyLag;
        private int busy;
        private boolean deaf;

        Device(int number, int address, int lag) {
            this.number = number;
            this.address = address;
            this.lag = lag;
            coils = new Bank(1);
            contacts = new Bank(1);
            registers = new Bank(TOP_WORD);
            gauges = new Bank(TOP_WORD);
            limits = new int[MOST_LIMITS * 4];
            files = new Shelf(4, MOST_FILE);
            queues = new Shelf(4, MOST_QUEUE);
            texts = new Shelf(10, MOST_TEXT);
            rules = new Row(MOST_RULES * 4);
            counters = new int[COUNTERS];
            log = new Row(LOG_EVENTS);
            ear = new Station();
            reply = new Row(MOST_PDU);
        }

        /** Null without such a kind. */
        Bank bankOfKind(int kind) {
            switch (kind) {
                case 0: return coils;
                case 1: return contacts;
                case 2: return registers;
                case 3: return gauges;
                default: return null;
            }
        }

        boolean addLimit(int from, int count, int low, int high) {
            if (limitCount >= MOST_LIMITS) {
                return false;
            }
            int i = limitCount * 4;
            limits[i] = from;
            limits[i + 1] = from + count - 1;
            limits[i + 2] = low;
            limits[i + 3] = high;
            limitCount++;
            return true;
        }

        boolean mayBeGiven(int at, int v) {
            for (int k = 0; k < limitCount && k < MOST_LIMITS; k++) {
                int i = k * 4;
                if (at >= limits[i] && at <= limits[i + 1] && (v < limits[i + 2] || v > limits[i + 3])) {
                    return false;
                }
            }
            return true;
        }

        /** Whether registers may not be written with q's words from a byte on: the refusal's code, else 0. */
        int registersFault(int at, int count, Row q, int firstByte) {
            if (!registers.has(at, count)) {
                return PLACE_CODE;
            }
            for (int i = 0; i < count; i++) {
                if (!mayBeGiven(at + i, q.word(firstByte + 2 * i))) {
                    return VALUE_CODE;
                }
            }
            return 0;
        }

        int counterOf(int k) {
            return k >= 0 && k < COUNTERS ? counters[k] : NONE;
        }

        void count(int k) {
            if (k >= 0 && k < COUNTERS) {
                counters[k] = counters[k] + 1 & TOP_WORD;
            }
        }

        void clearCounters() {
            for (int k = 0; k < COUNTERS; k++) {
                counters[k] = 0;
            }
        }

        /** Notes a frame that ends: whether it is a message. */
        boolean countFrame() {
            int more = deaf ? 32 : 0;
            if (!ear.isGood()) {
                count(1);
                if (ear.overrun) {
                    count(7);
                    more += 16;
                }
                log.addLatest(130 + more);
                return false;
            }
            count(0);
            int to = ear.row.at(0);
            if (to != address && to != 0) {
                return false;
            }
            count(3);
            log.addLatest(128 + more + (to == 0 ? 64 : 0));
            return true;
        }

        /** Notes what comes of a message, and keeps it if it is not empty. */
        void keepReply(Row coming, int code) {
            if (coming.n == 0) {
                count(4);
                return;
            }
            reply.become(coming, 0, coming.n);
            replyLag = lag;
            if (code == 0) {
                log.addLatest(64);
                return;
            }
            count(2);
            log.addLatest(code == BUSY_CODE ? 68 : 65);
        }

        void applyRules() {
            for (int i = 0; i < rules.n; i += 4) {
                applyOne(rules.at(i), rules.at(i + 1), rules.at(i + 2), rules.at(i + 3));
            }
        }

        boolean addRule(int kind, int a, int b, int c) {
            if (rules.n >= MOST_RULES * 4) {
                return false;
            }
            rules.add(kind);
            rules.add(a);
            rules.add(b);
            rules.add(c);
            return true;
        }

        private void applyOne(int kind, int a, int b, int c) {
            switch (kind) {
                case 0:
                    if (gauges.has(a, 1)) {
                        gauges.write(a, gauges.value(a) + b);
                    }
                    break;
                case 1:
                    if (gauges.has(a, 1) && registers.has(b, 1)) {
                        gauges.write(a, registers.value(b));
                    }
                    break;
                case 2:
                    if (gauges.has(a, 1) && registers.has(b, 1)) {
                        gauges.write(a, nearer(gauges.value(a), registers.value(b), c));
                    }
                    break;
                case 3:
                    if (gauges.has(a, 1) && registers.has(b, 1)) {
                        contacts.write(c, gauges.value(a) > registers.value(b) ? 1 : 0);
                    }
                    break;
                case 4:
                    if (contacts.value(a) == 1) {
                        coils.write(b, 1);
                    }
                    break;
                case 5:
                    if (coils.value(a) == 1 && gauges.has(b, 1)) {
                        coils.write(a, 0);
                        gauges.write(b, 0);
                    }
                    break;
                default:
                    if (coils.value(c) == 1 && gauges.has(a, 1)) {
                        pour(gauges.value(a), b);
                    }
                    break;
            }
        }

        private static int nearer(int v, int goal, int most) {
            return v < goal ? Math.min(v + most, goal) : Math.max(v - most, goal);
        }

        private void pour(int v, int at) {
            Row values = queues.find(at);
            if (values != null) {
                values.addLatest(v);
            }
        }
    }

    /** How requests and answers must look, whatever a device keeps. */
    private static final class Shape {
        /** More parts than any PDU can hold. */
        private static final int MOST_PARTS = 36;
        private static final int PART_BYTES = 7;

        /** The code of what is wrong with a request's form, values aside; else 0. */
        static int fault(Row q) {
            int behind = q.n - 1;
            switch (q.at(0)) {
                case 1:
                case 2:
                    return codeUnless(behind == 4 && within(q.word(3), 1, 2000));
                case 3:
                case 4:
                    return codeUnless(behind == 4 && within(q.word(3), 1, 125));
                case 5:
                case 6:
                    return codeUnless(behind == 4);
                case 7:
                case 11:
                case 12:
                case 17:
                    return codeUnless(behind == 0);
                case 8:
                    return diagnosisFault(q);
                case 15:
                    return codeUnless(behind >= 5 && within(q.word(3), 1, 1968)
                            && q.at(5) == (q.word(3) + 7) / 8 && behind - 5 == q.at(5));
                case 16:
                    return codeUnless(behind >= 5 && within(q.word(3), 1, 123)
                            && q.at(5) == 2 * q.word(3) && behind - 5 == q.at(5));
                case 20:
                    return codeUnless(areReadParts(q));
                case 21:
                    return codeUnless(areWriteParts(q));
                case 22:
                    return codeUnless(behind == 6);
                case 23:
                    return codeUnless(behind >= 9 && within(q.word(3), 1, 125) && within(q.word(7), 1, 121)
                            && q.at(9) == 2 * q.word(7) && behind - 9 == q.at(9));
                case 24:
                    return codeUnless(behind == 2);
                case 43:
                    return textsFault(q);
                default:
                    return FUNCTION_CODE;
            }
        }

        private static int codeUnless(boolean right) {
            return right ? 0 : VALUE_CODE;
        }

        private static int diagnosisFault(Row q) {
            if (q.n < 3) {
                return VALUE_CODE;
            }
            int kind = q.word(1);
            if (kind == 0) {
                return 0;
            }
            if (kind == 1 || kind == 2 || kind == 4 || within(kind, 10, 18) || kind == 20) {
                return q.n == 5 ? 0 : VALUE_CODE;
            }
            return FUNCTION_CODE;
        }

        private static int textsFault(Row q) {
            if (q.n < 2) {
                return VALUE_CODE;
            }
            if (q.at(1) != 14) {
                return FUNCTION_CODE;
            }
            return q.n == 4 && within(q.at(2), 1, 4) ? 0 : VALUE_CODE;
        }

        private static boolean areReadParts(Row q) {
            int b = q.at(1);
            if (q.n < 2 || !within(b, 7, 245) || b % PART_BYTES != 0 || q.n - 2 != b) {
                return false;
            }
            int answerBytes = 2;
            for (int i = 2; i + PART_BYTES <= q.n; i += PART_BYTES) {
                answerBytes += 2 + 2 * q.word(i + 5);
            }
            return answerBytes <= MOST_PDU;
        }

        private static boolean areWriteParts(Row q) {
            if (q.n < 2 || !within(q.at(1), 9, 251) || q.n - 2 != q.at(1)) {
                return false;
            }
            int i = 2;
            for (int part = 0; part < MOST_PARTS && i + PART_BYTES <= q.n; part++) {
                i += PART_BYTES + 2 * q.word(i + 5);
            }
            return i == q.n;
        }

        /** A restart as it must be, value and all. */
        static boolean isRestart(Row q) {
            int v = q.word(3);
            return q.n == 5 && q.at(0) == 8 && q.word(1) == 1 && (v == 0 || v == COIL_ON);
        }

        static boolean isRefusal(Row q, Row a) {
            return a.n == 2 && a.at(0) == (q.at(0) + 128 & 255);
        }

        static boolean fits(Row q, Row a) {
            if (a.at(0) != q.at(0) || fault(q) != 0) {
                return false;
            }
            boolean told = a.n >= 2 && a.at(1) == a.n - 2;
            switch (q.at(0)) {
                case 1:
                case 2:
                    return told && a.at(1) == (q.word(3) + 7) / 8;
                case 3:
                case 4:
                case 23:
                    return told && a.at(1) == 2 * q.word(3);
                case 7:
                    return a.n == 2;
                case 8:
                    return diagnosisFits(q, a);
                case 11:
                    return a.n == 5;
                case 12:
                    return told && within(a.at(1), 6, 70);
                case 15:
                case 16:
                    return a.n == 5 && a.beginsAs(q, 5);
                case 17:
                    return told && a.at(1) >= 1;
                case 20:
                    return told && partsFit(q, a);
                case 24:
                    return a.n >= 5 && a.word(1) == a.n - 3 && a.word(1) == 2 + 2 * a.word(3) && a.word(3) <= 31;
                case 43:
                    return a.n >= 7 && a.beginsAs(q, 3) && textsEnd(a) == a.n;
                default:
                    return isSame(q, a);
            }
        }

        private static boolean isSame(Row q, Row a) {
            return a.n == q.n && a.beginsAs(q, q.n);
        }

        private static boolean diagnosisFits(Row q, Row a) {
            int kind = q.word(1);
            if (kind == 0 || kind == 1 || kind == 10 || kind == 20) {
                return isSame(q, a);
            }
            return kind != 4 && a.n == 5 && a.beginsAs(q, 3);
        }

        private static boolean partsFit(Row q, Row a) {
            int k = 2;
            for (int i = 2; i + PART_BYTES <= q.n; i += PART_BYTES) {
                int bytes = 2 * q.word(i + 5);
                if (k + 2 + bytes > a.n || a.at(k) != 1 + bytes || a.at(k + 1) != 6) {
                    return false;
                }
                k += 2 + bytes;
            }
            return k == a.n;
        }

        /** Where the texts that an answer tells of end; NONE if that is beyond it. */
        private static int textsEnd(Row a) {
            int k = 7;
            for (int text = 0; text < a.at(6); text++) {
                if (k + 2 > a.n) {
                    return NONE;
                }
                k += 2 + a.at(k + 1);
            }
            return k;
        }
    }

    /** What a device does with a PDU. */
    private static final class Service {
        /** Whether a device serves a function that comes to address 0. */
        static boolean isForAll(int function) {
            return function == 5 || function == 6 || function == 15 || function == 16
                    || function == 21 || function == 22;
        }

        /** Serves q, a being what comes: the refusal's code, 0 without one. */
        static int served(Device device, Row q, Row a) {
            a.clear();
            int code = 0;
            if (device.busy > 0) {
                device.busy--;
                device.count(6);
                code = BUSY_CODE;
            }
            if (code == 0) {
                code = Shape.fault(q);
            }
            if (code == 0) {
                code = faultHere(device, q);
            }
            if (code != 0) {
                a.add(q.at(0) + 128 & 255);
                a.add(code);
                return code;
            }
            if (q.at(0) != 11 && q.at(0) != 12) {
                device.count(8);
            }
            if (isTelling(q.at(0))) {
                tell(device, q, a);
            } else {
                perform(device, q, a);
            }
            return 0;
        }

        /** The code of what a request of the right form asks in vain of this device; else 0. */
        private static int faultHere(Device device, Row q) {
            int at = q.word(1);
            switch (q.at(0)) {
                case 1:
                case 15:
                    return device.coils.has(at, q.word(3)) ? 0 : PLACE_CODE;
                case 2:
                    return device.contacts.has(at, q.word(3)) ? 0 : PLACE_CODE;
                case 3:
                    return device.registers.has(at, q.word(3)) ? 0 : PLACE_CODE;
                case 4:
                    return device.gauges.has(at, q.word(3)) ? 0 : PLACE_CODE;
                case 5:
                    if (q.word(3) != 0 && q.word(3) != COIL_ON) {
                        return VALUE_CODE;
                    }
                    return device.coils.has(at, 1) ? 0 : PLACE_CODE;
                case 6:
                    return device.registersFault(at, 1, q, 3);
                case 8:
                    return diagnosisFault(q);
                case 16:
                    return device.registersFault(at, q.word(3), q, 6);
                case 20:
                case 21:
                    return filesFault(device, q);
                case 22:
                    return maskFault(device, q);
                case 23:
                    if (!device.registers.has(at, q.word(3))) {
                        return PLACE_CODE;
                    }
                    return device.registersFault(q.word(5), q.word(7), q, 10);
                case 24:
                    return queueFault(device, at);
                case 43:
                    return q.at(2) == 4 && device.texts.find(q.at(3)) == null ? PLACE_CODE : 0;
                default:
                    return 0;
            }
        }

        private static int diagnosisFault(Row q) {
            int kind = q.word(1);
            int v = q.word(3);
            boolean right = kind == 0 || v == 0 || kind == 1 && v == COIL_ON;
            return right ? 0 : VALUE_CODE;
        }

        private static int filesFault(Device device, Row q) {
            int valueBytes = q.at(0) == 21 ? 2 : 0;
            int i = 2;
            for (int part = 0; part < Shape.MOST_PARTS && i < q.n; part++) {
                Row values = device.files.find(q.word(i + 1));
                int n = q.word(i + 5);
                if (q.at(i) != 6 || values == null || q.word(i + 3) + n > values.n) {
                    return PLACE_CODE;
                }
                i += Shape.PART_BYTES + valueBytes * n;
            }
            return 0;
        }

        private static int maskFault(Device device, Row q) {
            int at = q.word(1);
            if (!device.registers.has(at, 1)) {
                return PLACE_CODE;
            }
            int v = masked(device.registers.value(at), q.word(3), q.word(5));
            return device.mayBeGiven(at, v) ? 0 : VALUE_CODE;
        }

        private static int masked(int v, int and, int or) {
            return v & and | or & ~and;
        }

        private static int queueFault(Device device, int at) {
            Row values = device.queues.find(at);
            if (values == null) {
                return PLACE_CODE;
            }
            return values.n > 31 ? VALUE_CODE : 0;
        }

        private static void perform(Device device, Row q, Row a) {
            int at = q.word(1);
            switch (q.at(0)) {
                case 1:
                    readBits(device.coils, q, a);
                    break;
                case 2:
                    readBits(device.contacts, q, a);
                    break;
                case 3:
                    readWords(device.registers, q, a);
                    break;
                case 4:
                    readWords(device.gauges, q, a);
                    break;
                case 5:
                    device.coils.write(at, q.word(3) == COIL_ON ? 1 : 0);
                    a.addPart(q, 0, q.n);
                    break;
                case 6:
                    device.registers.write(at, q.word(3));
                    a.addPart(q, 0, q.n);
                    break;
                case 8:
                    diagnose(device, q, a);
                    break;
                case 15:
                    writeBits(device.coils, q);
                    a.addPart(q, 0, 5);
                    break;
                case 16:
                    writeWords(device.registers, at, q.word(3), q, 6);
                    a.addPart(q, 0, 5);
                    break;
                case 21:
                    writeFiles(device, q);
                    a.addPart(q, 0, q.n);
                    break;
                case 22:
                    device.registers.write(at, masked(device.registers.value(at), q.word(3), q.word(5)));
                    a.addPart(q, 0, q.n);
                    break;
                case 23:
                    writeWords(device.registers, q.word(5), q.word(7), q, 10);
                    readWords(device.registers, q, a);
                    break;
                default:
                    break;
            }
        }

        private static boolean isTelling(int function) {
            return function == 7 || function == 11 || function == 12 || function == 17 || function == 20
                    || function == 24 || function == 43;
        }

        /** The functions that change nothing and tell of other things than places. */
        private static void tell(Device device, Row q, Row a) {
            switch (q.at(0)) {
                case 7:
                    a.add(7);
                    a.add(device.coils.bits(device.coils.from, 8));
                    break;
                case 11:
                    a.add(11);
                    a.addWord(0);
                    a.addWord(device.counterOf(8));
                    break;
                case 12:
                    tellEvents(device, a);
                    break;
                case 17:
                    a.add(17);
                    a.add(2);
                    a.add(device.number);
                    a.add(255);
                    break;
                case 20:
                    readFiles(device, q, a);
                    break;
                case 24:
                    tellQueue(device.queues.find(q.word(1)), a);
                    break;
                default:
                    tellTexts(device.texts, q, a);
                    break;
            }
        }

        private static void readBits(Bank bank, Row q, Row a) {
            int from = q.word(1);
            int n = q.word(3);
            a.add(q.at(0));
            a.add((n + 7) / 8);
            for (int i = 0; i < n; i += 8) {
                a.add(bank.bits(from + i, n - i));
            }
        }

        private static void readWords(Bank bank, Row q, Row a) {
            int from = q.word(1);
            int n = q.word(3);
            a.add(q.at(0));
            a.add(2 * n);
            for (int i = 0; i < n; i++) {
                a.addWord(bank.value(from + i));
            }
        }

        private static void writeBits(Bank bank, Row q) {
            int from = q.word(1);
            int n = q.word(3);
            for (int i = 0; i < n; i++) {
                bank.write(from + i, q.at(6 + i / 8) >> i % 8);
            }
        }

        private static void writeWords(Bank bank, int at, int n, Row q, int firstByte) {
            for (int i = 0; i < n; i++) {
                bank.write(at + i, q.word(firstByte + 2 * i));
            }
        }

        private static void diagnose(Device device, Row q, Row a) {
            int kind = q.word(1);
            switch (kind) {
                case 1:
                    device.clearCounters();
                    if (q.word(3) == COIL_ON) {
                        device.log.clear();
                    }
                    device.log.addLatest(0);
                    device.deaf = false;
                    break;
                case 4:
                    device.deaf = true;
                    device.log.addLatest(4);
                    return;
                case 10:
                    device.clearCounters();
                    break;
                case 20:
                    device.counters[7] = 0;
                    break;
                default:
                    break;
            }
            a.addPart(q, 0, q.n);
            if (within(kind, 11, 18)) {
                a.cut(3);
                a.addWord(device.counterOf(kind - 11));
            }
        }

        private static void tellEvents(Device device, Row a) {
            Row log = device.log;
            a.add(12);
            a.add(6 + log.n);
            a.addWord(0);
            a.addWord(device.counterOf(8));
            a.addWord(device.counterOf(0));
            for (int i = log.n - 1; i >= 0; i--) {
                a.add(log.at(i));
            }
        }

        private static void readFiles(Device device, Row q, Row a) {
            a.add(20);
            a.add(0);
            for (int i = 2; i + Shape.PART_BYTES <= q.n; i += Shape.PART_BYTES) {
                Row values = device.files.find(q.word(i + 1));
                int from = q.word(i + 3);
                int n = q.word(i + 5);
                a.add(1 + 2 * n);
                a.add(6);
                for (int k = 0; k < n && values != null; k++) {
                    a.addWord(values.at(from + k));
                }
            }
            a.change(1, a.n - 2);
        }

        private static void writeFiles(Device device, Row q) {
            int i = 2;
            for (int part = 0; part < Shape.MOST_PARTS && i < q.n; part++) {
                Row values = device.files.find(q.word(i + 1));
                int from = q.word(i + 3);
                int n = q.word(i + 5);
                i += Shape.PART_BYTES;
                for (int k = 0; k < n && values != null; k++) {
                    values.change(from + k, q.word(i + 2 * k));
                }
                i += 2 * n;
            }
        }

        private static void tellQueue(Row values, Row a) {
            if (values == null) {
                return;
            }
            a.add(24);
            a.addWord(2 + 2 * values.n);
            a.addWord(values.n);
            for (int i = 0; i < values.n; i++) {
                a.addWord(values.at(i));
            }
        }

        private static void tellTexts(Shelf texts, Row q, Row a) {
            int code = q.at(2);
            int last = code == 1 ? 2 : code == 2 ? 6 : 255;
            int id = q.at(3);
            if (id > last || texts.find(id) == null) {
                id = texts.leastKey(0, last);
            }
            a.addPart(q, 0, 3);
            int top = texts.greatestKey();
            a.add(top > 6 ? 131 : top > 2 ? 130 : 129);
            a.add(0);
            a.add(0);
            a.add(0);
            int told = 0;
            for (int i = 0; i < 10 && id != NONE; i++) {
                Row text = texts.find(id);
                if (text == null || a.n + 2 + text.n > MOST_PDU) {
                    break;
                }
                a.add(id);
                a.add(text.n);
                a.addPart(text, 0, text.n);
                told++;
                id = code == 4 ? NONE : texts.leastKey(id + 1, last);
            }
            a.change(4, id == NONE ? 0 : 255);
            a.change(5, id == NONE ? 0 : id);
            a.change(6, told);
        }
    }
}
