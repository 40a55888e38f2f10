/** Four devices that talk by light; ../shared/DOC.md numbers the promises that are kept here. */
public final class BeamHouse {
    private static final int DEVICES = 4;
    private static final int TAPE_MOST = 1000;
    private static final int AIR_MOST = 4000;
    private static final int TALKS_MOST = 20;

    private static final int IDLE = 0;
    private static final int ASKING = 1;
    private static final int CALLING = 2;
    private static final int FIRST = 3;
    private static final int SECOND = 4;

    private static final int BEGIN = 192;
    private static final int CLOSE = 193;
    private static final int ESCAPE = 125;
    private static final int ESCAPED_BY = 32;
    private static final int FRAME_MOST = 72;
    private static final int CHECKED_MOST = 74;
    private static final int CHECKED_LEAST = 4;

    private static final int FIND = 63;
    private static final int HERE = 191;
    private static final int CALL = 147;
    private static final int YES = 115;
    private static final int END = 83;
    private static final int NO = 31;
    private static final int GOON = 1;
    private static final int AGAIN = 9;
    private static final int TURN = 16;

    private static final int FROM_ASKER = 255;
    private static final int TO_ASKER = 254;
    private static final int LINK_MOST = 126;
    private static final int WINDOW_MOST = 7;
    private static final int PARTS_MOST = 24;
    private static final int PART_MOST = 32;
    private static final int LIST_MOST = 8;
    private static final int LAST_SLOT = 255;

    private static final int CALL_TICKS = 4;
    private static final int POLL_TICKS = 3;
    private static final int POLLED_TICKS = 18;
    private static final int SECOND_TICKS = 40;

    private static final int MORE = 128;
    private static final int CREDIT_BITS = 127;
    private static final int CREDIT_FIRST = 4;
    private static final int OWED_TELLS = 3;
    private static final int ROWS_MOST = 8;
    private static final int ROW_MOST = 60;
    private static final int PART_BYTES = 31;

    private static final int NAME = 1;
    private static final int BODY = 72;
    private static final int LAST = 73;
    private static final int HEADER = 3;
    private static final int NAME_MOST = 8;
    private static final int CHUNK = 40;
    private static final int OBJECT_MOST = 120;
    private static final int STORE_MOST = 6;

    private static final int PUT = 2;
    private static final int PUT_LAST = 130;
    private static final int GET = 131;
    private static final int CONTINUE = 144;
    private static final int DONE = 160;
    private static final int BAD = 192;
    private static final int NOT_FOUND = 196;
    private static final int NO_ROOM = 205;
    private static final int ON_ITS_WAY = 1;

    private final Device[] devices = new Device[DEVICES];
    private final int[] tape = new int[TAPE_MOST];
    private int taped;

    public BeamHouse() {
        for (int d = 0; d < DEVICES; d++) {
            devices[d] = new Device(d + 1, d);
        }
    }

    public int device(int d, int address, int seed) {
        Device device = deviceAt(d);
        if (device == null || device.state != IDLE) {
            return 0;
        }
        device.address = address;
        device.seed = seed;
        return 1;
    }

    public int feed(int a, int b, int c, int d, int e) {
        if (taped > TAPE_MOST - 20) {
            return -1;
        }
        feedFour(a);
        feedFour(b);
        feedFour(c);
        feedFour(d);
        feedFour(e);
        return taped;
    }

    public int bend(int i, int mask) {
        if (i < 0 || i >= taped) {
            return -1;
        }
        int was = tape[i];
        tape[i] = was ^ (mask & 255);
        return was;
    }

    public int take(int d) {
        Device device = deviceAt(d);
        if (device == null) {
            return -1;
        }
        taped = device.air.movesTo(tape);
        return taped;
    }

    public int hear(int d, int i, int n) {
        Device device = deviceAt(d);
        if (device == null) {
            return -1;
        }
        if (i < 0 || n < 0 || n > taped || i > taped - n) {
            return -2;
        }
        return device.hears(tape, i, n);
    }

    public int talk(int a, int b, int n) {
        Device one = deviceAt(a);
        Device other = deviceAt(b);
        if (one == null || other == null || a == b) {
            return -1;
        }
        if (n < 1 || n > TALKS_MOST) {
            return -2;
        }
        int frames = 0;
        for (int k = 0; k < n && one.air.length + other.air.length > 0; k++) {
            frames += other.hears(one.air.bytes, 0, one.air.empties());
            frames += one.hears(other.air.bytes, 0, other.air.empties());
        }
        return frames;
    }

    public int tick(int d) {
        Device device = deviceAt(d);
        if (device == null) {
            return -1;
        }
        device.ticks();
        return device.state;
    }

    public int discover(int d, int slots) {
        Device device = deviceAt(d);
        if (device == null) {
            return -1;
        }
        if (device.state != IDLE) {
            return -2;
        }
        if (!mayBeSlots(slots)) {
            return -3;
        }
        device.state = ASKING;
        device.search.begins(slots);
        return 1;
    }

    public int listed(int d, int i) {
        Device device = deviceAt(d);
        if (device == null || i < 0 || i >= device.search.found) {
            return 0;
        }
        return device.search.list[i];
    }

    public int call(int d, int address, int window) {
        Device device = deviceAt(d);
        if (device == null) {
            return -1;
        }
        if (device.state != IDLE) {
            return -2;
        }
        if (!mayBeWindow(window)) {
            return -3;
        }
        device.link.begins(1 + device.draws(LINK_MOST), window, address);
        device.state = CALLING;
        device.sendsCall();
        return device.link.number;
    }

    public int end(int d) {
        Device device = deviceAt(d);
        if (device == null) {
            return -1;
        }
        if (device.state != FIRST) {
            return -2;
        }
        device.link.endWished = true;
        return 1;
    }

    public int store(int d, long name, int n, int size, int start, int step) {
        Device device = deviceAt(d);
        if (device == null) {
            return -1;
        }
        long key = nameKey(name, n);
        if (key == 0 || size < 0 || size > OBJECT_MOST) {
            return -4;
        }
        Thing place = device.objects.store.placeFor(key);
        if (place == null) {
            return -5;
        }
        place.begins(key);
        for (int i = 0; i < size; i++) {
            place.adds(i * step + start);
        }
        return 1;
    }

    public int put(int d, long name, int n) {
        Device device = deviceAt(d);
        if (device == null) {
            return -1;
        }
        if (!device.mayAsk()) {
            return -2;
        }
        Thing thing = device.objects.store.find(nameKey(name, n));
        if (thing == null) {
            return -4;
        }
        device.objects.asksPut(thing);
        device.sendsRow();
        return 1;
    }

    public int get(int d, long name, int n) {
        Device device = deviceAt(d);
        if (device == null) {
            return -1;
        }
        if (!device.mayAsk()) {
            return -2;
        }
        long key = nameKey(name, n);
        if (key == 0) {
            return -4;
        }
        device.objects.asksGet(key);
        device.sendsRow();
        return 1;
    }

    public int size(int d, long name, int n) {
        Thing thing = thingAt(d, name, n);
        return thing == null ? -1 : thing.length;
    }

    public int octet(int d, long name, int n, int i) {
        Thing thing = thingAt(d, name, n);
        if (thing == null || i < 0 || i >= thing.length || i >= OBJECT_MOST) {
            return -1;
        }
        return thing.bytes[i];
    }

    public int of(int d, int what) {
        Device device = deviceAt(d);
        if (device == null || what < 0 || what > 16) {
            return -9;
        }
        return what < 10 ? linkFact(device, what) : deviceFact(device, what);
    }

    public int tape(int what, int n) {
        if (what == 0) {
            return taped;
        }
        if (what != 1) {
            return -9;
        }
        return n < 0 || n > taped ? -1 : check(tape, n);
    }

    private static int linkFact(Device device, int what) {
        Link link = device.link;
        boolean linked = device.isLinked();
        switch (what) {
            case 0: return device.state;
            case 1: return device.address;
            case 2: return linked || device.state == CALLING ? link.number : 0;
            case 3: return linked ? link.window : 0;
            case 4: return link.sentFrom;
            case 5: return link.taken;
            case 6: return link.parts.count;
            case 7: return device.up.rows.count;
            case 8: return linked ? device.up.credit : 0;
            default: return device.up.owed;
        }
    }

    private static int deviceFact(Device device, int what) {
        switch (what) {
            case 10: return device.air.length;
            case 11: return device.ear.frames;
            case 12: return device.ear.dropped;
            case 13: return device.objects.store.count;
            case 14: return device.objects.status;
            case 15: return device.link.hasTurn ? 1 : 0;
            default: return device.search.found;
        }
    }

    private Device deviceAt(int d) {
        return d < 0 || d >= DEVICES ? null : devices[d];
    }

    private Thing thingAt(int d, long name, int n) {
        Device device = deviceAt(d);
        return device == null ? null : device.objects.store.find(nameKey(name, n));
    }

    private void feedFour(int number) {
        for (int shift = 24; shift >= 0 && taped < TAPE_MOST; shift -= 8) {
            tape[taped] = (number >>> shift) & 255;
            taped++;
        }
    }

    private static boolean mayBeSlots(int slots) {
        return slots == 1 || slots == 6 || slots == 8 || slots == 16;
    }

    private static boolean mayBeWindow(int window) {
        return window >= 1 && window <= WINDOW_MOST;
    }

    /** No byte of a NAME is 0, so the number alone tells how long it is; 0 stands for none. */
    private static long nameKey(long name, int n) {
        if (n < 1 || n > NAME_MOST) {
            return 0;
        }
        long key = 0;
        for (int shift = 8 * (n - 1); shift >= 0; shift -= 8) {
            long octet = (name >>> shift) & 255;
            if (octet == 0) {
                return 0;
            }
            key = (key << 8) | octet;
        }
        return key;
    }

    private static int check(int[] bytes, int n) {
        int c = 65535;
        for (int i = 0; i < n && i < bytes.length; i++) {
            c ^= bytes[i];
            for (int k = 0; k < 8; k++) {
                c = (c & 1) == 0 ? c >>> 1 : (c >>> 1) ^ 33800;
            }
        }
        return 65535 - c;
    }

    /** What a device sends, wrapped, till it is taken. */
    private static final class Air {
        final int[] bytes = new int[AIR_MOST];
        int length;
        private final int[] frame = new int[CHECKED_MOST];
        private int framed;

        void begins(int head, int kind) {
            framed = 0;
            adds(head);
            adds(kind);
        }

        void adds(int octet) {
            if (framed < FRAME_MOST) {
                frame[framed] = octet & 255;
                framed++;
            }
        }

        void addsAddress(int address) {
            for (int shift = 0; shift < 32; shift += 8) {
                adds(address >>> shift);
            }
        }

        void closes() {
            int sum = check(frame, framed);
            int checked = framed + 2;
            if (checked > CHECKED_MOST) {
                return;
            }
            frame[framed] = sum & 255;
            frame[framed + 1] = sum >>> 8;
            if (length + wrappedLength(checked) > AIR_MOST) {
                return;
            }
            puts(BEGIN);
            for (int i = 0; i < checked; i++) {
                if (isSpecial(frame[i])) {
                    puts(ESCAPE);
                    puts(frame[i] ^ ESCAPED_BY);
                } else {
                    puts(frame[i]);
                }
            }
            puts(CLOSE);
        }

        /** The bytes lie there still for who hears them; how many they were is the answer. */
        int empties() {
            int n = length;
            length = 0;
            return n;
        }

        /** What does not fit on the tape stays, and is the first to be taken next. */
        int movesTo(int[] tape) {
            int n = Math.min(length, tape.length);
            for (int i = 0; i < n; i++) {
                tape[i] = bytes[i];
            }
            for (int i = n; i < length; i++) {
                bytes[i - n] = bytes[i];
            }
            length -= n;
            return n;
        }

        private int wrappedLength(int checked) {
            int n = 2;
            for (int i = 0; i < checked; i++) {
                n += isSpecial(frame[i]) ? 2 : 1;
            }
            return n;
        }

        private void puts(int octet) {
            if (length < AIR_MOST) {
                bytes[length] = octet;
                length++;
            }
        }

        private static boolean isSpecial(int octet) {
            return octet == BEGIN || octet == CLOSE || octet == ESCAPE;
        }
    }

    /** Unwraps what is heard, byte by byte; the frame lies in bytes till the next byte comes. */
    private static final class Ear {
        final int[] bytes = new int[CHECKED_MOST];
        int frames;
        int dropped;
        private int length;
        private boolean open;
        private boolean escaped;

        boolean closesFrame(int octet) {
            if (octet == BEGIN) {
                begins();
                return false;
            }
            if (!open) {
                return false;
            }
            if (octet == CLOSE) {
                return closes();
            }
            if (escaped) {
                escaped = false;
                adds(octet ^ ESCAPED_BY);
            } else if (octet == ESCAPE) {
                escaped = true;
            } else {
                adds(octet);
            }
            return false;
        }

        int frameLength() {
            return length - 2;
        }

        /** DATA, GOON or AGAIN. */
        boolean isNumbered() {
            int low = bytes[1] & 15;
            return (low & 1) == 0 || (low == GOON || low == AGAIN) && frameLength() == 2;
        }

        int addressAt(int i) {
            if (i < 0 || i > CHECKED_MOST - 4) {
                return 0;
            }
            return bytes[i] | bytes[i + 1] << 8 | bytes[i + 2] << 16 | bytes[i + 3] << 24;
        }

        private void begins() {
            if (open && escaped) {
                dropped++;
            }
            open = true;
            escaped = false;
            length = 0;
        }

        private boolean closes() {
            boolean whole = !escaped && isChecked();
            open = false;
            if (whole) {
                frames++;
            } else {
                dropped++;
            }
            return whole;
        }

        private void adds(int octet) {
            if (length < CHECKED_MOST) {
                bytes[length] = octet;
                length++;
            } else {
                dropped++;
                open = false;
            }
        }

        private boolean isChecked() {
            if (length < CHECKED_LEAST || length > CHECKED_MOST) {
                return false;
            }
            int told = bytes[length - 2] | bytes[length - 1] << 8;
            return told == check(bytes, length - 2);
        }
    }

    /** Both sides of finding: what an asking device goes through, and the slot of one that is asked. */
    private static final class Search {
        final int[] list = new int[LIST_MOST];
        int found;
        int slots;
        int nextSlot;
        private boolean hasSlot;
        private int slot;
        private int asker;

        void begins(int howMany) {
            found = 0;
            slots = howMany;
            nextSlot = 0;
        }

        void finds(int address) {
            for (int i = 0; i < found && i < LIST_MOST; i++) {
                if (list[i] == address) {
                    return;
                }
            }
            if (found < LIST_MOST) {
                list[found] = address;
                found++;
            }
        }

        void takesSlot(int forAsker, int drawn) {
            hasSlot = true;
            asker = forAsker;
            slot = drawn;
        }

        void losesSlot() {
            hasSlot = false;
        }

        boolean isAsked(int byAsker, int atSlot) {
            return hasSlot && asker == byAsker && slot == atSlot;
        }
    }

    /** A ring of rows of bytes. */
    private static final class Queue {
        int count;
        private final int most;
        private final int width;
        private final int[] bytes;
        private final int[] lengths;
        private int head;

        Queue(int most, int width) {
            this.most = most;
            this.width = width;
            bytes = new int[Math.max(0, most * width)];
            lengths = new int[Math.max(0, most)];
        }

        boolean isFull() {
            return count >= most;
        }

        void adds(int[] from, int n) {
            if (isFull() || n < 0 || n > width || n > from.length) {
                return;
            }
            int place = placeOf(count);
            for (int k = 0; k < n; k++) {
                bytes[place * width + k] = from[k];
            }
            lengths[place] = n;
            count++;
        }

        int lengthAt(int i) {
            return i < 0 || i >= count ? 0 : lengths[placeOf(i)];
        }

        int byteAt(int i, int k) {
            return k < 0 || k >= lengthAt(i) ? 0 : bytes[placeOf(i) * width + k];
        }

        void drops(int n) {
            int gone = Math.max(0, Math.min(n, count));
            head = placeOf(gone);
            count -= gone;
        }

        void empties() {
            head = 0;
            count = 0;
        }

        private int placeOf(int i) {
            int place = head + i;
            return place >= most ? place - most : place;
        }
    }

    /** The numbers of a link and the parts that wait on it. */
    private static final class Link {
        final Queue parts = new Queue(PARTS_MOST, PART_MOST);
        int number;
        int window;
        int other;
        int sentFrom;
        int taken;
        int sent;
        int ticks;
        boolean hasTurn;
        boolean hasTakenData;
        boolean hasMissed;
        boolean endWished;
        boolean endSent;
        boolean endIsLatest;

        void begins(int ofNumber, int withWindow, int withOther) {
            clears();
            number = ofNumber;
            window = withWindow;
            other = withOther;
        }

        void clears() {
            parts.empties();
            number = 0;
            window = 0;
            other = 0;
            sentFrom = 0;
            taken = 0;
            sent = 0;
            ticks = 0;
            hasTurn = false;
            hasTakenData = false;
            hasMissed = false;
            endWished = false;
            endSent = false;
            endIsLatest = false;
        }

        /** False if next lies behind what was sent: then the frame that told it must not count. */
        boolean knows(int next) {
            int known = (next - sentFrom) & 7;
            if (known > sent) {
                return false;
            }
            parts.drops(known);
            sentFrom = next & 7;
            sent -= known;
            return true;
        }

        boolean takesData(int dataNumber, int n) {
            if (dataNumber != taken || n < 1 || n > PART_MOST) {
                hasMissed = true;
                return false;
            }
            taken = (taken + 1) & 7;
            hasTakenData = true;
            return true;
        }

        /** Sends all that a turn lets go, and gives the turn away. */
        void usesTurn(Air air, int head) {
            int n = Math.min(window, parts.count);
            for (int k = 0; k < n; k++) {
                int last = k == n - 1 ? TURN : 0;
                air.begins(head, ((sentFrom + k) & 7) << 1 | last | taken << 5);
                for (int i = 0; i < parts.lengthAt(k); i++) {
                    air.adds(parts.byteAt(k, i));
                }
                air.closes();
            }
            if (n == 0) {
                sendsBare(air, head, hasMissed ? AGAIN : GOON);
            }
            sent = n;
            endIsLatest = false;
            givesTurn();
        }

        /** A YES counts whatever is sent behind the END; END again is only for one that sent nothing since. */
        void sendsEnd(Air air, int head) {
            air.begins(head, END);
            air.closes();
            endSent = true;
            endIsLatest = true;
        }

        void sendsBare(Air air, int head, int kind) {
            air.begins(head, kind | TURN | taken << 5);
            air.closes();
        }

        void givesTurn() {
            hasTurn = false;
            hasMissed = false;
            ticks = 0;
        }
    }

    /** Rows that go in parts by credits, both ways. */
    private static final class Up {
        final Queue rows = new Queue(ROWS_MOST, ROW_MOST);
        final Row came = new Row();
        int credit;
        int owed;
        private final int[] part = new int[PART_MOST];
        private int parted;
        private boolean isOver;
        private boolean isTooLong;

        void begins() {
            clears();
            credit = CREDIT_FIRST;
        }

        void clears() {
            rows.empties();
            credit = 0;
            owed = 0;
            parted = 0;
            isOver = true;
            isTooLong = false;
        }

        /** True if a row has come whole. What is owed and what the other may send are always 4 together. */
        boolean takesPart(int[] bytes, int at, int n) {
            if (at < 0 || n < 1 || n > bytes.length - at || n > 1 && owed >= CREDIT_FIRST) {
                return false;
            }
            credit += bytes[at] & CREDIT_BITS;
            if (n == 1) {
                return false;
            }
            owed++;
            if (isOver) {
                came.length = 0;
                isTooLong = false;
            }
            for (int k = 1; k < n; k++) {
                if (!came.adds(bytes[at + k])) {
                    isTooLong = true;
                }
            }
            isOver = (bytes[at] & MORE) == 0;
            return isOver && !isTooLong;
        }

        void makesParts(Queue parts) {
            for (int k = 0; k < PARTS_MOST && rows.count > 0 && credit > 0 && !parts.isFull(); k++) {
                int left = rows.lengthAt(0) - parted;
                int n = Math.min(left, PART_BYTES);
                for (int i = 0; i < n; i++) {
                    part[1 + i] = rows.byteAt(0, parted + i);
                }
                parted += n;
                if (left == n) {
                    rows.drops(1);
                    parted = 0;
                }
                credit--;
                addsPart(parts, left > n ? MORE : 0, n);
            }
        }

        /** Only what then is still owed has no row to go with. */
        void makesAllParts(Queue parts) {
            makesParts(parts);
            if (owed >= OWED_TELLS && !parts.isFull()) {
                addsPart(parts, 0, 0);
            }
        }

        private void addsPart(Queue parts, int more, int n) {
            part[0] = more | owed;
            owed = 0;
            parts.adds(part, 1 + n);
        }
    }

    /** A row of an object's way: written for the air, or read from it. */
    private static final class Row {
        final int[] bytes = new int[ROW_MOST];
        int length;
        long name;
        int bodyAt;
        int bodyLength;
        int lastAt;
        int lastLength;

        boolean adds(int octet) {
            if (length < 0 || length >= ROW_MOST) {
                return false;
            }
            bytes[length] = octet & 255;
            length++;
            return true;
        }

        void begins(int ofCode) {
            length = 0;
            adds(ofCode);
            adds(0);
            adds(HEADER);
        }

        void addsName(long key) {
            int n = 0;
            for (int k = 0; k < NAME_MOST; k++) {
                n += (key >>> (8 * k)) == 0 ? 0 : 1;
            }
            adds(NAME);
            adds(0);
            adds(HEADER + n);
            for (int k = n - 1; k >= 0; k--) {
                adds((int) (key >>> (8 * k)));
            }
            tellsLength();
        }

        void addsBytes(int kind, Thing thing, int from, int n) {
            adds(kind);
            adds(0);
            adds(HEADER + n);
            for (int k = Math.max(0, from); k < from + n && k < OBJECT_MOST; k++) {
                adds(thing.bytes[k]);
            }
            tellsLength();
        }

        boolean isAnswer() {
            int code = code();
            return code == CONTINUE || code == DONE || code == BAD || code == NOT_FOUND || code == NO_ROOM;
        }

        int code() {
            return length > 0 ? bytes[0] : 0;
        }

        /** False if the row is ill: then nothing of its headers is to be used. */
        boolean readsWell() {
            name = 0;
            bodyLength = 0;
            lastLength = 0;
            if (length < HEADER || length > ROW_MOST || pairAt(1) != length) {
                return false;
            }
            int at = HEADER;
            for (int k = 0; k < ROW_MOST && at < length; k++) {
                int n = length - at < HEADER ? 0 : pairAt(at + 1);
                if (n < HEADER || n > length - at || !reads(bytes[at], at + HEADER, n - HEADER)) {
                    return false;
                }
                at += n;
            }
            return true;
        }

        private boolean reads(int kind, int at, int n) {
            if (kind == BODY) {
                bodyAt = at;
                bodyLength = n;
                return true;
            }
            if (kind == LAST) {
                lastAt = at;
                lastLength = n;
                return true;
            }
            return kind == NAME && readsName(at, n);
        }

        private boolean readsName(int at, int n) {
            if (n < 1 || n > NAME_MOST || at < 0 || at > ROW_MOST - n) {
                return false;
            }
            name = 0;
            for (int k = 0; k < n; k++) {
                if (bytes[at + k] == 0) {
                    return false;
                }
                name = (name << 8) | bytes[at + k];
            }
            return true;
        }

        private int pairAt(int at) {
            return at < 0 || at > ROW_MOST - 2 ? 0 : bytes[at] << 8 | bytes[at + 1];
        }

        private void tellsLength() {
            bytes[2] = length;
        }
    }

    /** An OBJECT; its length goes one beyond what it may have, so that one too long is known by it. */
    private static final class Thing {
        final int[] bytes = new int[OBJECT_MOST];
        long name;
        int length;

        void begins(long key) {
            name = key;
            length = 0;
        }

        void adds(int octet) {
            if (length < 0 || length > OBJECT_MOST) {
                return;
            }
            if (length < OBJECT_MOST) {
                bytes[length] = octet & 255;
            }
            length++;
        }

        void addsFrom(int[] from, int at, int n) {
            for (int k = Math.max(0, at); k < at + n && k < from.length; k++) {
                adds(from[k]);
            }
        }

        void copies(Thing thing) {
            name = thing.name;
            length = thing.length;
            for (int k = 0; k < length && k < OBJECT_MOST; k++) {
                bytes[k] = thing.bytes[k];
            }
        }
    }

    private static final class Store {
        int count;
        private final Thing[] things = new Thing[STORE_MOST];

        Store() {
            for (int k = 0; k < STORE_MOST; k++) {
                things[k] = new Thing();
            }
        }

        Thing find(long key) {
            for (int k = 0; k < count && k < STORE_MOST; k++) {
                if (key != 0 && things[k].name == key) {
                    return things[k];
                }
            }
            return null;
        }

        /** The place of that name, else the first free one; null if there is none. */
        Thing placeFor(long key) {
            int k = 0;
            while (k < count && k < STORE_MOST && things[k].name != key) {
                k++;
            }
            if (k >= STORE_MOST) {
                return null;
            }
            if (k == count) {
                count++;
            }
            return things[k];
        }

        boolean keeps(Thing thing) {
            if (thing.length > OBJECT_MOST) {
                return false;
            }
            Thing place = placeFor(thing.name);
            if (place == null) {
                return false;
            }
            place.copies(thing);
            return true;
        }
    }

    /** The objects of a device: what it asks of the other one as a client, what it does for it as a server. */
    private static final class Objects {
        final Store store = new Store();
        final Row row = new Row();
        int status;
        private final Thing asked = new Thing();
        private boolean isGet;
        private boolean isLastSent;
        private int askedAt;
        private final Thing coming = new Thing();
        private boolean isComing;
        private final Thing going = new Thing();
        private boolean isGoing;
        private int goingAt;

        void asksPut(Thing thing) {
            status = ON_ITS_WAY;
            isGet = false;
            askedAt = 0;
            asked.copies(thing);
            writesPut(true);
        }

        void asksGet(long key) {
            status = ON_ITS_WAY;
            isGet = true;
            asked.begins(key);
            row.begins(GET);
            row.addsName(key);
        }

        void loses() {
            if (status == ON_ITS_WAY) {
                status = 0;
            }
            isComing = false;
            isGoing = false;
        }

        /** True if row holds what is to be asked next. */
        boolean goesOn(Row answer) {
            if (status != ON_ITS_WAY || !answer.readsWell()) {
                return false;
            }
            int code = answer.code();
            if (code == CONTINUE && isGet) {
                asked.addsFrom(answer.bytes, answer.bodyAt, answer.bodyLength);
                row.begins(GET);
                return true;
            }
            if (code == CONTINUE && !isLastSent) {
                writesPut(false);
                return true;
            }
            status = code;
            if (code == DONE && isGet) {
                asked.addsFrom(answer.bytes, answer.lastAt, answer.lastLength);
                status = store.keeps(asked) ? DONE : NO_ROOM;
            }
            return false;
        }

        /** Every row that asks is answered: row holds the answer. */
        void answers(Row came) {
            boolean isWell = came.readsWell();
            int code = came.code();
            if (isWell && code == GET) {
                answersGet(came.name);
            } else if (isWell && (code == PUT || code == PUT_LAST)) {
                row.begins(takesPut(came));
            } else {
                row.begins(BAD);
            }
        }

        private void writesPut(boolean isNamed) {
            int n = Math.min(asked.length - askedAt, CHUNK);
            isLastSent = askedAt + n >= asked.length;
            row.begins(isLastSent ? PUT_LAST : PUT);
            if (isNamed) {
                row.addsName(asked.name);
            }
            row.addsBytes(isLastSent ? LAST : BODY, asked, askedAt, n);
            askedAt += n;
        }

        private int takesPut(Row came) {
            if (came.name != 0) {
                coming.begins(came.name);
                isComing = true;
            }
            if (!isComing) {
                return BAD;
            }
            if (came.code() == PUT) {
                coming.addsFrom(came.bytes, came.bodyAt, came.bodyLength);
                return CONTINUE;
            }
            coming.addsFrom(came.bytes, came.lastAt, came.lastLength);
            isComing = false;
            return store.keeps(coming) ? DONE : NO_ROOM;
        }

        private void answersGet(long key) {
            Thing thing = store.find(key);
            if (key != 0 && thing == null) {
                row.begins(NOT_FOUND);
                return;
            }
            if (thing != null) {
                going.copies(thing);
                isGoing = true;
                goingAt = 0;
            }
            if (!isGoing) {
                row.begins(BAD);
                return;
            }
            int n = Math.min(going.length - goingAt, CHUNK);
            isGoing = goingAt + n < going.length;
            row.begins(isGoing ? CONTINUE : DONE);
            row.addsBytes(isGoing ? BODY : LAST, going, goingAt, n);
            goingAt += n;
        }
    }

    private static final class Device {
        final Air air = new Air();
        final Ear ear = new Ear();
        final Search search = new Search();
        final Link link = new Link();
        final Up up = new Up();
        final Objects objects = new Objects();
        int state;
        int address;
        int seed;

        Device(int address, int seed) {
            this.address = address;
            this.seed = seed;
        }

        boolean isLinked() {
            return state == FIRST || state == SECOND;
        }

        boolean mayAsk() {
            return isLinked() && objects.status != ON_ITS_WAY;
        }

        int draws(int below) {
            seed = seed * 1103515245 + 12345;
            return below < 1 ? 0 : (seed >>> 16) % below;
        }

        int hears(int[] bytes, int from, int n) {
            int before = ear.frames;
            for (int k = Math.max(0, from); k < from + n && k < bytes.length; k++) {
                if (ear.closesFrame(bytes[k])) {
                    if (ear.isNumbered()) {
                        hearsNumbered(ear.bytes[1], ear.frameLength());
                    } else {
                        hearsNamed(ear.bytes[1], ear.frameLength());
                    }
                }
            }
            return ear.frames - before;
        }

        void ticks() {
            switch (state) {
                case ASKING: ticksAsking(); break;
                case CALLING: ticksCalling(); break;
                case FIRST: ticksFirst(); break;
                case SECOND: ticksSecond(); break;
                default: break;
            }
        }

        void sendsCall() {
            air.begins(FROM_ASKER, CALL);
            air.addsAddress(address);
            air.addsAddress(link.other);
            air.adds(link.number);
            air.adds(link.window);
            air.closes();
        }

        /** One row more than may wait is lost: the queue leaves it aside. */
        void sendsRow() {
            up.rows.adds(objects.row.bytes, objects.row.length);
            up.makesAllParts(link.parts);
        }

        private void becomesIdle() {
            state = IDLE;
            link.clears();
            up.clears();
            objects.loses();
        }

        private void becomesLinked(int newState, int number, int window, int other) {
            state = newState;
            link.begins(number, window, other);
            up.begins();
        }

        private void ticksAsking() {
            boolean isLast = search.nextSlot >= search.slots;
            air.begins(FROM_ASKER, FIND);
            air.addsAddress(address);
            air.adds(search.slots);
            air.adds(isLast ? LAST_SLOT : search.nextSlot);
            air.closes();
            search.nextSlot++;
            if (isLast) {
                becomesIdle();
            }
        }

        private void ticksCalling() {
            link.ticks++;
            if (link.ticks >= CALL_TICKS) {
                becomesIdle();
            } else {
                sendsCall();
            }
        }

        private void ticksFirst() {
            if (link.hasTurn) {
                if (link.endWished && link.parts.count == 0) {
                    link.sendsEnd(air, ownHead());
                    link.givesTurn();
                } else {
                    link.usesTurn(air, ownHead());
                }
                return;
            }
            link.ticks++;
            if (link.ticks >= POLLED_TICKS) {
                becomesIdle();
            } else if (link.ticks % POLL_TICKS == 0) {
                if (link.endIsLatest) {
                    link.sendsEnd(air, ownHead());
                } else {
                    link.sendsBare(air, ownHead(), GOON);
                }
            }
        }

        private void ticksSecond() {
            link.ticks++;
            if (link.ticks >= SECOND_TICKS) {
                becomesIdle();
            }
        }

        private int ownHead() {
            return link.number * 2 + (state == SECOND ? 0 : 1);
        }

        private boolean isFromOther() {
            return isLinked() && ear.bytes[0] == (ownHead() ^ 1);
        }

        private void hearsNamed(int kind, int n) {
            switch (kind) {
                case FIND: hearsFind(n); break;
                case HERE: hearsHere(n); break;
                case CALL: hearsCall(n); break;
                case YES: hearsYes(n); break;
                case END: hearsEnd(n); break;
                case NO: hearsNo(n); break;
                default: break;
            }
        }

        private void hearsFind(int n) {
            if (state != IDLE || n != 8 || ear.bytes[0] != FROM_ASKER) {
                return;
            }
            int asker = ear.addressAt(2);
            int slots = ear.bytes[6];
            int slot = ear.bytes[7];
            if (!mayBeSlots(slots)) {
                return;
            }
            if (slot == LAST_SLOT) {
                search.losesSlot();
                return;
            }
            if (slot >= slots || asker == address) {
                return;
            }
            if (slot == 0) {
                search.takesSlot(asker, draws(slots));
            }
            if (search.isAsked(asker, slot)) {
                air.begins(TO_ASKER, HERE);
                air.addsAddress(address);
                air.addsAddress(asker);
                air.adds(slot);
                air.closes();
            }
        }

        private void hearsHere(int n) {
            boolean isForIt = n == 11 && ear.bytes[0] == TO_ASKER && ear.addressAt(6) == address;
            if (state == ASKING && isForIt) {
                search.finds(ear.addressAt(2));
            }
        }

        private void hearsCall(int n) {
            if (n != 12 || ear.bytes[0] != FROM_ASKER || ear.addressAt(6) != address) {
                return;
            }
            int caller = ear.addressAt(2);
            int number = ear.bytes[10];
            int window = ear.bytes[11];
            if (number < 1 || number > LINK_MOST || !mayBeWindow(window)) {
                return;
            }
            if (state == IDLE) {
                becomesLinked(SECOND, number, window, caller);
                sendsYes();
            } else if (state == SECOND && link.number == number && link.other == caller && !link.hasTakenData) {
                sendsYes();
            }
        }

        private void sendsYes() {
            air.begins(ownHead(), YES);
            air.addsAddress(address);
            air.addsAddress(link.other);
            air.adds(link.window);
            air.closes();
        }

        private void hearsYes(int n) {
            if (n == 2 && state == FIRST && link.endSent && isFromOther()) {
                becomesIdle();
            } else if (n == 11 && state == CALLING && ear.bytes[0] == link.number * 2) {
                int window = ear.bytes[10];
                boolean isForIt = ear.addressAt(2) == link.other && ear.addressAt(6) == address;
                if (isForIt && mayBeWindow(window)) {
                    becomesLinked(FIRST, link.number, window, link.other);
                    link.hasTurn = true;
                }
            }
        }

        private void hearsEnd(int n) {
            if (n != 2) {
                return;
            }
            if (!isLinked()) {
                refuses();
            } else if (state == SECOND && isFromOther()) {
                air.begins(ownHead(), YES);
                air.closes();
                becomesIdle();
            }
        }

        private void hearsNo(int n) {
            if (n == 2 && state == FIRST && isFromOther()) {
                becomesIdle();
            }
        }

        private void refuses() {
            int head = ear.bytes[0];
            if ((head & 1) == 1) {
                air.begins(head ^ 1, NO);
                air.closes();
            }
        }

        private void hearsNumbered(int kind, int n) {
            boolean hasTurn = (kind & TURN) != 0;
            if (!isLinked() && hasTurn) {
                refuses();
            }
            if (!isFromOther() || !link.knows(kind >>> 5)) {
                return;
            }
            up.makesAllParts(link.parts);
            boolean isTaken = (kind & 1) == 0 && link.takesData((kind >>> 1) & 7, n - 2);
            if (isTaken && up.takesPart(ear.bytes, 2, n - 2)) {
                hearsRow(up.came);
            }
            up.makesAllParts(link.parts);
            if (state == SECOND) {
                link.ticks = 0;
            }
            if (hasTurn && state == SECOND) {
                link.usesTurn(air, ownHead());
            } else if (hasTurn) {
                link.hasTurn = true;
            }
        }

        /** Rows that wait go before the answer, for it may need their place. */
        private void hearsRow(Row came) {
            up.makesParts(link.parts);
            boolean goes = true;
            if (came.isAnswer()) {
                goes = objects.goesOn(came);
            } else {
                objects.answers(came);
            }
            if (goes) {
                up.rows.adds(objects.row.bytes, objects.row.length);
            }
        }
    }
}
