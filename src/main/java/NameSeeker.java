import java.util.Arrays;
import java.util.NoSuchElementException;

/**
 * A resolver of names with the tree that it asks. DOC.md numbers the promises that the public
 * methods keep; the words in capitals below are its terms.
 */
public final class NameSeeker {
    public static final int NONE = -1;

    private static final int MOST_NAMES = 300;
    private static final int MOST_LABELS = 6;
    private static final int MOST_LETTERS = 10;
    private static final int MOST_ZONES = 12;
    private static final int MOST_RECORDS = 150;
    private static final int MOST_SERVERS = 12;
    private static final int MOST_BYTES = 1000;
    private static final int MOST_LIFE = 100000;
    private static final int MOST_KEPT = 100;
    private static final int MOST_DATA = 10;
    private static final int MOST_HINTS = 4;
    private static final int MOST_FRAMES = 4;
    private static final int MOST_CHAINS = 8;
    private static final int MOST_QUERIES = 40;
    // A RECORD that counts takes twelve bytes at least, so a MESSAGE has no more than 82 of them.
    private static final int MOST_ROWS = 90;
    // A LIFE that is read has 32 bits and no sign.
    private static final long ABOVE_LIVES = 4294967296L;
    // Without a QUERY between them some ten thousand moves are the most that four FRAMES can make.
    private static final int MOST_MOVES = 1000000;

    private static final int ROOT = 0;
    private static final int POINT = 46;
    private static final int FED = 20;
    private static final int HEAD = 12;

    private static final int ADDRESS = 1;
    private static final int HOST = 2;
    private static final int ALIAS = 5;
    private static final int SOA = 6;
    private static final int NUMBER = 16;
    // No RECORD has this TYPE, so it marks a NOTHING of a NAME alone.
    private static final int ANY_TYPE = 0;

    private static final int FLAG_REPLY = 32768;
    private static final int FLAG_AA = 1024;
    private static final int CODE_BITS = 15;
    private static final int CODE_ABSENT = 3;
    private static final int LEAD = 49152;
    private static final int LEAD_BYTE = 192;
    private static final int LEAD_BITS = 63;

    private static final int FAULT_HEAD = 1;
    private static final int FAULT_NAME = 2;
    private static final int FAULT_SHORT = 3;
    private static final int FAULT_DATA = 4;
    private static final int FAULT_LONG = 5;
    private static final int FAULT_ROOM = 6;

    private static final int FOUND = 0;
    private static final int EMPTY = 1;
    private static final int ABSENT = 2;
    private static final int FAILED = 3;
    private static final int GOING = 4;
    private static final int NEVER = 5;

    private final Bytes tape;
    private final Names names;
    private final Spelling spelling;
    private final Zones zones;
    private final Writer writer;
    private final Servers servers;
    private final Reader reader;
    private final Rows latest;
    private final Cache cache;
    private final Seeker seeker;

    public NameSeeker() {
        tape = new Bytes();
        names = new Names();
        spelling = new Spelling();
        zones = new Zones(names);
        writer = new Writer(names);
        servers = new Servers(names, zones);
        reader = new Reader(names);
        latest = new Rows();
        cache = new Cache();
        seeker = new Seeker(names, cache);
    }

    public int feed(int a, int b, int c, int d, int e) {
        if (tape.size() + FED > MOST_BYTES) {
            return NONE;
        }
        tape.addFour(a);
        tape.addFour(b);
        tape.addFour(c);
        tape.addFour(d);
        tape.addFour(e);
        return tape.size();
    }

    public boolean end(int n) {
        return tape.cutTo(n);
    }

    public boolean turn(int i, int v) {
        return tape.set(i, v);
    }

    public int name() throws IllegalArgumentException, UnsupportedOperationException {
        boolean isText = spelling.readText(tape);
        tape.clear();
        if (!isText) {
            throw new IllegalArgumentException("no text of a name");
        }
        if (names.size() + names.missing(spelling) > MOST_NAMES) {
            throw new UnsupportedOperationException("too many names");
        }
        return names.made(spelling);
    }

    public int look(int name, int what) throws IndexOutOfBoundsException, NoSuchElementException {
        needName(name);
        switch (what) {
            case 0:
                return names.depth(name);
            case 1:
                return names.above(name);
            case 2:
                return names.textSize(name);
            default:
                throw new NoSuchElementException("no such property of a name");
        }
    }

    public int text(int name, int i) throws IndexOutOfBoundsException {
        needName(name);
        return names.textByte(name, i);
    }

    public int zone(int apex, int minimum)
            throws IndexOutOfBoundsException, IllegalArgumentException, UnsupportedOperationException {
        needName(apex);
        if (!isLife(minimum) || zones.ofApex(apex) != NONE) {
            throw new IllegalArgumentException("no minimum, or a zone of that apex is there");
        }
        if (zones.size() >= MOST_ZONES) {
            throw new UnsupportedOperationException("too many zones");
        }
        return zones.open(apex, minimum);
    }

    public int record(int zone, int owner, int type, int data, int life)
            throws IndexOutOfBoundsException, IllegalArgumentException, UnsupportedOperationException {
        needZone(zone);
        needName(owner);
        if (!names.isIn(owner, zones.apexOf(zone)) || !isKept(type) || !isLife(life)) {
            throw new IllegalArgumentException("no such owner, type or life in a zone");
        }
        if (isNamed(type) && !names.has(data)) {
            throw new IllegalArgumentException("the data must be a name");
        }
        if (zones.records() >= MOST_RECORDS) {
            throw new UnsupportedOperationException("too many records");
        }
        zones.add(zone, owner, type, data, life);
        return zones.recordsOf(zone);
    }

    public int drop(int zone, int owner, int type) throws IndexOutOfBoundsException {
        needZone(zone);
        needName(owner);
        return zones.remove(zone, owner, type);
    }

    public int server(int address) throws IllegalArgumentException, UnsupportedOperationException {
        if (servers.ofAddress(address) != NONE) {
            throw new IllegalArgumentException("a server of that address is there");
        }
        if (servers.size() >= MOST_SERVERS) {
            throw new UnsupportedOperationException("too many servers");
        }
        return servers.open(address);
    }

    public boolean serve(int server, int zone, boolean on) throws IndexOutOfBoundsException {
        needServer(server);
        needZone(zone);
        return servers.change(server, zone, on);
    }

    public int say(int server, int name, int type) throws IndexOutOfBoundsException {
        needServer(server);
        needName(name);
        tape.clear();
        int zone = servers.zoneFor(server, name);
        if (zone != NONE && zones.tell(zone, name, type, 0, writer)) {
            tape.copy(writer.message());
        }
        return tape.size();
    }

    public int parse() {
        int fault = reader.read(tape);
        tape.clear();
        if (fault != 0) {
            return -fault;
        }
        latest.copy(reader.rows());
        return latest.size();
    }

    public int parsed(int k, int what) throws NoSuchElementException {
        if (!latest.has(k)) {
            throw new NoSuchElementException("no such record");
        }
        switch (what) {
            case 0:
                return latest.section(k);
            case 1:
                return latest.owner(k);
            case 2:
                return latest.type(k);
            case 3:
                return latest.value(k);
            case 4:
                return latest.life(k);
            default:
                throw new NoSuchElementException("no such property of a record");
        }
    }

    public int hint(int address) {
        return seeker.addHint(address);
    }

    public int tick(int n) throws IllegalArgumentException {
        if (n < 0 || n > MOST_LIFE) {
            throw new IllegalArgumentException("time does not go on so");
        }
        return cache.goOn(n);
    }

    public int ask(int name, int type)
            throws IndexOutOfBoundsException, IllegalStateException, IllegalArgumentException {
        needName(name);
        if (seeker.state() == GOING) {
            throw new IllegalStateException("a seeking is not at its end");
        }
        if (!isKept(type)) {
            throw new IllegalArgumentException("no such type can be asked for");
        }
        seeker.begin(name, type);
        return seeker.goOn();
    }

    public int step() throws IllegalStateException {
        needQuery();
        int server = servers.ofAddress(seeker.address());
        int zone = servers.zoneFor(server, seeker.askedName());
        if (zone != NONE && zones.tell(zone, seeker.askedName(), seeker.askedType(), seeker.id(), writer)) {
            int fault = reader.read(writer.message());
            if (fault == 0 && seeker.isAnsweredBy(reader)) {
                seeker.learn(reader);
            }
        }
        return seeker.goOn();
    }

    public int lose() throws IllegalStateException {
        needQuery();
        return seeker.goOn();
    }

    public int forge() throws IllegalStateException {
        if (!seeker.isWaiting()) {
            // The TAPE is used up by a call that throws, too.
            tape.clear();
            throw new IllegalStateException("no query is out");
        }
        int fault = reader.read(tape);
        tape.clear();
        if (fault != 0 || !seeker.isAnsweredBy(reader)) {
            return NONE;
        }
        seeker.learn(reader);
        return seeker.goOn();
    }

    public int query(int what) throws IllegalStateException, NoSuchElementException {
        needQuery();
        switch (what) {
            case 0:
                return seeker.address();
            case 1:
                return seeker.id();
            case 2:
                return seeker.askedName();
            case 3:
                return seeker.askedType();
            case 4:
                return seeker.depth();
            case 5:
                return seeker.place();
            default:
                throw new NoSuchElementException("no such property of a query");
        }
    }

    public int result(int what) throws NoSuchElementException {
        switch (what) {
            case 0:
                return seeker.state();
            case 1:
                return seeker.foundSize();
            case 2:
                return seeker.firstChains();
            case 3:
                return seeker.firstName();
            case 4:
                return seeker.sent();
            default:
                throw new NoSuchElementException("no such property of a seeking");
        }
    }

    public int data(int k) {
        return seeker.found(k);
    }

    public int cached(int name, int type) throws IndexOutOfBoundsException {
        needName(name);
        return cache.held(name, type);
    }

    public int count(int what) {
        switch (what) {
            case 0:
                return names.size();
            case 1:
                return zones.size();
            case 2:
                return zones.records();
            case 3:
                return servers.size();
            case 4:
                return seeker.hints();
            case 5:
                return cache.now();
            case 6:
                return cache.size();
            case 7:
                return seeker.sentEver();
            case 8:
                return tape.size();
            default:
                return NONE;
        }
    }

    private void needName(int name) {
        if (!names.has(name)) {
            throw new IndexOutOfBoundsException("no such name");
        }
    }

    private void needZone(int zone) {
        if (!zones.has(zone)) {
            throw new IndexOutOfBoundsException("no such zone");
        }
    }

    private void needServer(int server) {
        if (!servers.has(server)) {
            throw new IndexOutOfBoundsException("no such server");
        }
    }

    private void needQuery() {
        if (!seeker.isWaiting()) {
            throw new IllegalStateException("no query is out");
        }
    }

    private static boolean isLife(int life) {
        return life >= 1 && life <= MOST_LIFE;
    }

    private static boolean isKept(int type) {
        return type == ADDRESS || type == HOST || type == ALIAS || type == NUMBER;
    }

    private static boolean isNamed(int type) {
        return type == HOST || type == ALIAS;
    }

    /** At most 1000 bytes in a row: the TAPE, or a MESSAGE that is written. */
    private static final class Bytes {
        private final byte[] row;
        private int used;
        private boolean tooLong;

        Bytes() {
            row = new byte[MOST_BYTES];
            used = 0;
            tooLong = false;
        }

        int size() {
            return used;
        }

        /** Whether, since it was cleared, a byte came that found no room. */
        boolean isTooLong() {
            return tooLong;
        }

        void clear() {
            used = 0;
            tooLong = false;
        }

        /** The byte at a place, 0 to 255; NONE where there is none. */
        int at(int i) {
            return i >= 0 && i < used ? row[i] & 255 : NONE;
        }

        boolean set(int i, int v) {
            if (i < 0 || i >= used) {
                return false;
            }
            row[i] = (byte) v;
            return true;
        }

        boolean cutTo(int n) {
            if (n < 0 || n > used) {
                return false;
            }
            used = n;
            return true;
        }

        void add(int v) {
            if (used >= MOST_BYTES) {
                tooLong = true;
                return;
            }
            row[used] = (byte) v;
            used++;
        }

        void addTwo(int v) {
            add(v >> 8);
            add(v);
        }

        void addFour(int v) {
            add(v >> 24);
            add(v >> 16);
            add(v >> 8);
            add(v);
        }

        void setTwo(int i, int v) {
            set(i, v >> 8);
            set(i + 1, v);
        }

        /** The number of two bytes at a place; whoever asks has seen that they are there. */
        int two(int i) {
            return (at(i) << 8) + at(i + 1);
        }

        int four(int i) {
            return (two(i) << 16) + two(i + 2);
        }

        void copy(Bytes other) {
            System.arraycopy(other.row, 0, row, 0, other.used);
            used = other.used;
            tooLong = other.tooLong;
        }
    }

    /**
     * LABELS as they are read, the lowest one first. A LABEL is one long, six bits a byte of it and
     * none of these zero, so that two of them are alike where the longs are.
     */
    private static final class Spelling {
        private final long[] labels;
        private final int[] sizes;
        private int used;

        Spelling() {
            labels = new long[MOST_LABELS];
            sizes = new int[MOST_LABELS];
            used = 0;
        }

        void clear() {
            used = 0;
        }

        int size() {
            return used;
        }

        long labelAt(int k) {
            return k >= 0 && k < used ? labels[k] : 0L;
        }

        int lengthAt(int k) {
            return k >= 0 && k < used ? sizes[k] : 0;
        }

        /** Begins one more LABEL; false if it would be the seventh. */
        boolean open() {
            if (used >= MOST_LABELS) {
                return false;
            }
            labels[used] = 0L;
            sizes[used] = 0;
            used++;
            return true;
        }

        /** A byte comes to the latest LABEL; false if that may not be. */
        boolean add(int v) {
            int sign = 0;
            if (v >= 'a' && v <= 'z') {
                sign = v - 'a' + 1;
            } else if (v >= '0' && v <= '9') {
                sign = v - '0' + 27;
            } else if (v == '-') {
                sign = 37;
            }
            int last = used - 1;
            if (sign == 0 || last < 0 || sizes[last] >= MOST_LETTERS) {
                return false;
            }
            labels[last] = (labels[last] << 6) + sign;
            sizes[last]++;
            return true;
        }

        /** Takes a TEXT; false if the bytes are none. */
        boolean readText(Bytes text) {
            clear();
            if (text.size() == 1 && text.at(0) == POINT) {
                return true;
            }
            open();
            for (int i = 0; i < text.size(); i++) {
                int v = text.at(i);
                boolean fits = v == POINT ? lengthAt(used - 1) > 0 && open() : add(v);
                if (!fits) {
                    return false;
                }
            }
            return lengthAt(used - 1) > 0;
        }
    }

    /** The tree of NAMES. */
    private static final class Names {
        private final int[] parents;
        private final long[] labels;
        private final int[] sizes;
        private int used;

        Names() {
            parents = new int[MOST_NAMES];
            labels = new long[MOST_NAMES];
            sizes = new int[MOST_NAMES];
            used = 1;
        }

        int size() {
            return used;
        }

        boolean has(int name) {
            return name >= 0 && name < used;
        }

        int above(int name) {
            return name >= 0 && name < used ? parents[name] : ROOT;
        }

        int labelSize(int name) {
            return name >= 0 && name < used ? sizes[name] : 0;
        }

        /** Byte i of the LABEL of a NAME; NONE where there is none. */
        int letter(int name, int i) {
            if (name < 0 || name >= used || i < 0 || i >= sizes[name]) {
                return NONE;
            }
            int sign = (int) (labels[name] >> 6 * (sizes[name] - 1 - i)) & 63;
            if (sign == 37) {
                return '-';
            }
            return sign > 26 ? sign - 27 + '0' : sign - 1 + 'a';
        }

        int depth(int name) {
            int sum = 0;
            int at = name;
            for (int k = 0; k < MOST_LABELS && at != ROOT; k++) {
                sum++;
                at = above(at);
            }
            return sum;
        }

        boolean isIn(int name, int over) {
            int at = name;
            for (int k = 0; k < MOST_LABELS && at != over; k++) {
                at = above(at);
            }
            return at == over;
        }

        int textSize(int name) {
            if (name == ROOT) {
                return 1;
            }
            int sum = -1;
            int at = name;
            for (int k = 0; k < MOST_LABELS && at != ROOT; k++) {
                sum += labelSize(at) + 1;
                at = above(at);
            }
            return sum;
        }

        int textByte(int name, int i) {
            if (i < 0 || i >= textSize(name)) {
                return NONE;
            }
            int at = name;
            int left = i;
            for (int k = 0; k < MOST_LABELS && left > labelSize(at); k++) {
                left -= labelSize(at) + 1;
                at = above(at);
            }
            return left == labelSize(at) ? POINT : letter(at, left);
        }

        /** How many NAMES would have to be made for a spelling. */
        int missing(Spelling spelling) {
            int at = ROOT;
            for (int k = spelling.size() - 1; k >= 0; k--) {
                at = child(at, spelling.labelAt(k));
                if (at == NONE) {
                    return k + 1;
                }
            }
            return 0;
        }

        /**
         * The NAME of a spelling, made from the root down where it is not there; NONE where no room
         * is left, and what was made till then stays.
         */
        int made(Spelling spelling) {
            int at = ROOT;
            for (int k = spelling.size() - 1; k >= 0; k--) {
                int next = child(at, spelling.labelAt(k));
                if (next == NONE) {
                    next = add(at, spelling.labelAt(k), spelling.lengthAt(k));
                }
                if (next == NONE) {
                    return NONE;
                }
                at = next;
            }
            return at;
        }

        private int child(int over, long label) {
            for (int n = 1; n < used; n++) {
                if (parents[n] == over && labels[n] == label) {
                    return n;
                }
            }
            return NONE;
        }

        private int add(int over, long label, int size) {
            if (used >= MOST_NAMES) {
                return NONE;
            }
            parents[used] = over;
            labels[used] = label;
            sizes[used] = size;
            used++;
            return used - 1;
        }
    }

    /** ZONES with their RECORDS, these in one row by the order in which they came. */
    private static final class Zones {
        private final Names names;
        private final int[] apexes;
        private final int[] minimums;
        private int used;
        private final int[] homes;
        private final int[] owners;
        private final int[] types;
        private final int[] values;
        private final int[] lives;
        private int records;

        Zones(Names names) {
            this.names = names;
            apexes = new int[MOST_ZONES];
            minimums = new int[MOST_ZONES];
            used = 0;
            homes = new int[MOST_RECORDS];
            owners = new int[MOST_RECORDS];
            types = new int[MOST_RECORDS];
            values = new int[MOST_RECORDS];
            lives = new int[MOST_RECORDS];
            records = 0;
        }

        int size() {
            return used;
        }

        int records() {
            return records;
        }

        boolean has(int zone) {
            return zone >= 0 && zone < used;
        }

        int apexOf(int zone) {
            return has(zone) ? apexes[zone] : ROOT;
        }

        int ofApex(int apex) {
            for (int z = 0; z < used; z++) {
                if (apexes[z] == apex) {
                    return z;
                }
            }
            return NONE;
        }

        int open(int apex, int minimum) {
            if (used >= MOST_ZONES) {
                return NONE;
            }
            apexes[used] = apex;
            minimums[used] = minimum;
            used++;
            return used - 1;
        }

        void add(int zone, int owner, int type, int value, int life) {
            if (records >= MOST_RECORDS) {
                return;
            }
            homes[records] = zone;
            owners[records] = owner;
            types[records] = type;
            values[records] = value;
            lives[records] = life;
            records++;
        }

        int recordsOf(int zone) {
            int sum = 0;
            for (int r = 0; r < records; r++) {
                if (homes[r] == zone) {
                    sum++;
                }
            }
            return sum;
        }

        int remove(int zone, int owner, int type) {
            int before = records;
            int stay = 0;
            for (int r = 0; r < before; r++) {
                if (!isOf(r, zone, owner, type)) {
                    homes[stay] = homes[r];
                    owners[stay] = owners[r];
                    types[stay] = types[r];
                    values[stay] = values[r];
                    lives[stay] = lives[r];
                    stay++;
                }
            }
            records = stay;
            return before - stay;
        }

        /** What a ZONE has to say goes to the writer; false if that is too long to be said. */
        boolean tell(int zone, int name, int type, int id, Writer writer) {
            writer.begin(id, name, type);
            int cut = highestCut(zone, name);
            if (cut != NONE) {
                tellAll(zone, cut, HOST, 1, MOST_RECORDS, writer);
                tellHosts(zone, cut, writer);
                return writer.finish(0);
            }
            boolean stands = type != ALIAS && owns(zone, name, ALIAS);
            int told = stands
                    ? tellAll(zone, name, ALIAS, 0, 1, writer)
                    : tellAll(zone, name, type, 0, MOST_RECORDS, writer);
            if (told > 0) {
                return writer.finish(FLAG_AA);
            }
            writer.addSoa(apexOf(zone), has(zone) ? minimums[zone] : 1);
            return writer.finish(isThere(zone, name) ? FLAG_AA : FLAG_AA + CODE_ABSENT);
        }

        private boolean isOf(int r, int zone, int owner, int type) {
            return homes[r] == zone && owners[r] == owner && types[r] == type;
        }

        private boolean owns(int zone, int owner, int type) {
            for (int r = 0; r < records; r++) {
                if (isOf(r, zone, owner, type)) {
                    return true;
                }
            }
            return false;
        }

        private int highestCut(int zone, int name) {
            int cut = NONE;
            int at = name;
            for (int k = 0; k < MOST_LABELS && at != apexOf(zone); k++) {
                if (owns(zone, at, HOST)) {
                    cut = at;
                }
                at = names.above(at);
            }
            return cut;
        }

        private boolean isThere(int zone, int name) {
            if (name == apexOf(zone)) {
                return true;
            }
            for (int r = 0; r < records; r++) {
                if (homes[r] == zone && names.isIn(owners[r], name)) {
                    return true;
                }
            }
            return false;
        }

        private int tellAll(int zone, int owner, int type, int section, int most, Writer writer) {
            int told = 0;
            for (int r = 0; r < records && told < most; r++) {
                if (isOf(r, zone, owner, type)) {
                    writer.addRecord(section, owner, type, values[r], lives[r]);
                    told++;
                }
            }
            return told;
        }

        private void tellHosts(int zone, int cut, Writer writer) {
            for (int r = 0; r < records; r++) {
                if (homes[r] == zone && types[r] == ADDRESS && isHost(zone, cut, owners[r])) {
                    writer.addRecord(2, owners[r], ADDRESS, values[r], lives[r]);
                }
            }
        }

        private boolean isHost(int zone, int cut, int host) {
            for (int r = 0; r < records; r++) {
                if (isOf(r, zone, cut, HOST) && values[r] == host) {
                    return true;
                }
            }
            return false;
        }
    }

    /** SERVERS and which ZONES each of them serves, a bit a ZONE. */
    private static final class Servers {
        private final Names names;
        private final Zones zones;
        private final int[] addresses;
        private final int[] served;
        private int used;

        Servers(Names names, Zones zones) {
            this.names = names;
            this.zones = zones;
            addresses = new int[MOST_SERVERS];
            served = new int[MOST_SERVERS];
            used = 0;
        }

        int size() {
            return used;
        }

        boolean has(int server) {
            return server >= 0 && server < used;
        }

        int ofAddress(int address) {
            for (int s = 0; s < used; s++) {
                if (addresses[s] == address) {
                    return s;
                }
            }
            return NONE;
        }

        int open(int address) {
            if (used >= MOST_SERVERS) {
                return NONE;
            }
            addresses[used] = address;
            served[used] = 0;
            used++;
            return used - 1;
        }

        boolean change(int server, int zone, boolean on) {
            if (!has(server) || isServed(server, zone) == on) {
                return false;
            }
            served[server] ^= 1 << zone;
            return true;
        }

        /** The ZONE out of which a SERVER speaks of a NAME; NONE if it says nothing. */
        int zoneFor(int server, int name) {
            int at = name;
            for (int k = 0; k <= MOST_LABELS; k++) {
                int zone = zones.ofApex(at);
                if (zone != NONE && isServed(server, zone)) {
                    return zone;
                }
                at = names.above(at);
            }
            return NONE;
        }

        private boolean isServed(int server, int zone) {
            return has(server) && (served[server] >> zone & 1) == 1;
        }
    }

    /** Writes a MESSAGE, each NAME in it told once. */
    private static final class Writer {
        private final Names names;
        private final Bytes message;
        // Where each NAME was written first; 0, a place in the head, stands for nowhere.
        private final int[] places;
        private final int[] sections;

        Writer(Names names) {
            this.names = names;
            message = new Bytes();
            places = new int[MOST_NAMES];
            sections = new int[3];
        }

        Bytes message() {
            return message;
        }

        void begin(int id, int name, int type) {
            message.clear();
            Arrays.fill(places, 0);
            Arrays.fill(sections, 0);
            message.addTwo(id);
            message.addTwo(FLAG_REPLY);
            message.addTwo(1);
            message.addTwo(0);
            message.addFour(0);
            addName(name);
            message.addTwo(type);
            message.addTwo(1);
        }

        void addRecord(int section, int owner, int type, int value, int life) {
            int at = openRecord(section, owner, type, life);
            if (isNamed(type)) {
                addName(value);
            } else {
                if (type == NUMBER) {
                    message.add(4);
                }
                message.addFour(value);
            }
            closeRecord(at);
        }

        void addSoa(int apex, int minimum) {
            int at = openRecord(1, apex, SOA, minimum);
            addName(ROOT);
            addName(ROOT);
            message.addFour(1);
            message.addFour(0);
            message.addFour(0);
            message.addFour(0);
            message.addFour(minimum);
            closeRecord(at);
        }

        /** The flags and counts are known at the end; false if the MESSAGE is too long to be said. */
        boolean finish(int flags) {
            if (message.isTooLong()) {
                return false;
            }
            message.setTwo(2, FLAG_REPLY + flags);
            message.setTwo(6, sections[0]);
            message.setTwo(8, sections[1]);
            message.setTwo(10, sections[2]);
            return true;
        }

        /** Answers where the length stands, which is known when the DATA are written. */
        private int openRecord(int section, int owner, int type, int life) {
            if (section >= 0 && section < 3) {
                sections[section]++;
            }
            addName(owner);
            message.addTwo(type);
            message.addTwo(1);
            message.addFour(life);
            int at = message.size();
            message.addTwo(0);
            return at;
        }

        private void closeRecord(int at) {
            message.setTwo(at, message.size() - at - 2);
        }

        private void addName(int name) {
            int at = names.has(name) ? name : ROOT;
            for (int k = 0; k < MOST_LABELS && at != ROOT && places[at] == 0; k++) {
                places[at] = message.size();
                message.add(names.labelSize(at));
                for (int i = 0; i < names.labelSize(at); i++) {
                    message.add(names.letter(at, i));
                }
                at = names.above(at);
            }
            if (at == ROOT) {
                message.add(0);
            } else {
                message.addTwo(LEAD + places[at]);
            }
        }
    }

    /** RECORDS that were read and count. */
    private static final class Rows {
        private final int[] sections;
        private final int[] owners;
        private final int[] types;
        private final int[] values;
        private final int[] lives;
        private int used;

        Rows() {
            sections = new int[MOST_ROWS];
            owners = new int[MOST_ROWS];
            types = new int[MOST_ROWS];
            values = new int[MOST_ROWS];
            lives = new int[MOST_ROWS];
            used = 0;
        }

        int size() {
            return used;
        }

        boolean has(int r) {
            return r >= 0 && r < used;
        }

        int section(int r) {
            return has(r) ? sections[r] : NONE;
        }

        int owner(int r) {
            return has(r) ? owners[r] : NONE;
        }

        int type(int r) {
            return has(r) ? types[r] : NONE;
        }

        int value(int r) {
            return has(r) ? values[r] : 0;
        }

        int life(int r) {
            return has(r) ? lives[r] : 0;
        }

        void clear() {
            used = 0;
        }

        void add(int section, int owner, int type, int value, int life) {
            if (used >= MOST_ROWS) {
                return;
            }
            sections[used] = section;
            owners[used] = owner;
            types[used] = type;
            values[used] = value;
            lives[used] = life;
            used++;
        }

        void copy(Rows other) {
            clear();
            for (int r = 0; r < other.used; r++) {
                add(other.sections[r], other.owners[r], other.types[r], other.values[r], other.lives[r]);
            }
        }

        boolean isOf(int r, int section, int owner, int type) {
            return has(r) && sections[r] == section && owners[r] == owner && types[r] == type;
        }

        /** The first RECORD of a TYPE in a section; NONE if there is none. */
        int first(int section, int type) {
            for (int r = 0; r < used; r++) {
                if (sections[r] == section && types[r] == type) {
                    return r;
                }
            }
            return NONE;
        }
    }

    /** Reads a MESSAGE; what it found is there till the next one is read. */
    private static final class Reader {
        private static final int SOA_LENGTH = 22;

        private final Names names;
        private final Spelling spelling;
        private final Rows rows;
        private int id;
        private int flags;
        private int askedName;
        private int askedType;
        private int askedClass;
        // Where the reading stands, and what the latest NAME or DATA that was read came to.
        private int at;
        private int found;

        Reader(Names names) {
            this.names = names;
            spelling = new Spelling();
            rows = new Rows();
        }

        Rows rows() {
            return rows;
        }

        int flags() {
            return flags;
        }

        boolean isReplyTo(int wantedId, int name, int type) {
            return id == wantedId && askedName == name && askedType == type && askedClass == 1
                    && (flags & FLAG_REPLY) != 0;
        }

        /** Answers the first FAULT, 0 if there is none. */
        int read(Bytes from) {
            rows.clear();
            if (from.size() < HEAD || from.two(4) != 1) {
                return FAULT_HEAD;
            }
            id = from.two(0);
            flags = from.two(2);
            at = HEAD;
            int fault = readQuestion(from);
            for (int section = 0; section < 3; section++) {
                int told = from.two(6 + 2 * section);
                for (int k = 0; k < told && fault == 0; k++) {
                    fault = readRecord(from, section);
                }
            }
            if (fault == 0 && at < from.size()) {
                return FAULT_LONG;
            }
            return fault;
        }

        private int readQuestion(Bytes from) {
            int fault = readName(from);
            if (fault != 0) {
                return fault;
            }
            if (at + 4 > from.size()) {
                return FAULT_SHORT;
            }
            askedName = found;
            askedType = from.two(at);
            askedClass = from.two(at + 2);
            at += 4;
            return 0;
        }

        private int readRecord(Bytes from, int section) {
            int fault = readName(from);
            if (fault != 0) {
                return fault;
            }
            int owner = found;
            int head = at;
            int begin = head + 10;
            if (begin > from.size()) {
                return FAULT_SHORT;
            }
            int type = from.two(head);
            int end = begin + from.two(head + 8);
            if (end > from.size()) {
                return FAULT_SHORT;
            }
            fault = isNamed(type) ? readDataName(from, begin, end) : readData(from, type, begin, end);
            if (fault != 0) {
                return fault;
            }
            at = end;
            if (from.two(head + 2) == 1 && (isKept(type) || type == SOA)) {
                rows.add(section, owner, type, found, from.four(head + 4));
            }
            return 0;
        }

        private int readData(Bytes from, int type, int begin, int end) {
            int length = end - begin;
            switch (type) {
                case ADDRESS:
                    found = from.four(begin);
                    return length == 4 ? 0 : FAULT_DATA;
                case NUMBER:
                    found = from.four(begin + 1);
                    return length == 5 && from.at(begin) == 4 ? 0 : FAULT_DATA;
                case SOA:
                    found = from.four(end - 4);
                    return length == SOA_LENGTH && from.two(begin) == 0 ? 0 : FAULT_DATA;
                default:
                    return 0;
            }
        }

        private int readDataName(Bytes from, int begin, int end) {
            at = begin;
            int fault = readName(from);
            if (fault == FAULT_ROOM) {
                return fault;
            }
            return fault == 0 && at == end ? 0 : FAULT_DATA;
        }

        /** Reads the NAME at which the reading stands and goes behind it. */
        private int readName(Bytes from) {
            spelling.clear();
            int begin = at;
            int place = at;
            int behind = NONE;
            // Each turn takes one of six LABELS or is led to a place below the one before.
            for (int k = 0; k < MOST_BYTES + HEAD; k++) {
                int v = from.at(place);
                if (v == NONE) {
                    return FAULT_SHORT;
                }
                if (v == 0) {
                    at = behind == NONE ? place + 1 : behind;
                    found = names.made(spelling);
                    return found == NONE ? FAULT_ROOM : 0;
                }
                if (v < LEAD_BYTE) {
                    int fault = readLabel(from, place, v);
                    if (fault != 0) {
                        return fault;
                    }
                    place += v + 1;
                    continue;
                }
                int low = from.at(place + 1);
                if (low == NONE) {
                    return FAULT_SHORT;
                }
                int led = ((v & LEAD_BITS) << 8) + low;
                if (led >= begin) {
                    return FAULT_NAME;
                }
                behind = behind == NONE ? place + 2 : behind;
                begin = led;
                place = led;
            }
            return FAULT_NAME;
        }

        private int readLabel(Bytes from, int place, int length) {
            if (length > MOST_LETTERS || !spelling.open()) {
                return FAULT_NAME;
            }
            for (int i = 1; i <= length; i++) {
                int v = from.at(place + i);
                if (v == NONE) {
                    return FAULT_SHORT;
                }
                if (!spelling.add(v)) {
                    return FAULT_NAME;
                }
            }
            return 0;
        }
    }

    /** SETS and NOTHINGS; one without DATA is a NOTHING. */
    private static final class Cache {
        private final int[] names;
        private final int[] types;
        private final long[] tills;
        // Which one was put in earlier is told by these, as one may go into the place of another.
        private final int[] births;
        private final int[] sizes;
        private final int[] values;
        private int used;
        private int puts;
        private int now;

        Cache() {
            names = new int[MOST_KEPT];
            types = new int[MOST_KEPT];
            tills = new long[MOST_KEPT];
            births = new int[MOST_KEPT];
            sizes = new int[MOST_KEPT];
            values = new int[MOST_KEPT * MOST_DATA];
            used = 0;
            puts = 0;
            now = 0;
        }

        int size() {
            return used;
        }

        int now() {
            return now;
        }

        int goOn(int n) {
            now += n;
            return now;
        }

        /** How many DATA it has of a NAME and TYPE, 0 for a NOTHING; NONE if nothing holds. */
        int held(int name, int type) {
            int slot = slotOf(name, type);
            return slot != NONE && now < tills[slot] ? sizes[slot] : NONE;
        }

        /** Where the SET of a NAME and TYPE is; NONE if none holds. */
        int setOf(int name, int type) {
            int slot = slotOf(name, type);
            return slot != NONE && now < tills[slot] && sizes[slot] > 0 ? slot : NONE;
        }

        int sizeOf(int slot) {
            return slot >= 0 && slot < used ? sizes[slot] : 0;
        }

        int valueOf(int slot, int k) {
            return k >= 0 && k < sizeOf(slot) ? values[slot * MOST_DATA + k] : 0;
        }

        void put(int name, int type, int[] from, int size, long life) {
            int slot = slotOf(name, type);
            if (slot == NONE && used < MOST_KEPT) {
                slot = used;
                used++;
            }
            if (slot == NONE) {
                slot = firstToEnd();
            }
            names[slot] = name;
            types[slot] = type;
            tills[slot] = now + life;
            births[slot] = puts;
            puts++;
            sizes[slot] = 0;
            for (int k = 0; k < size && k < MOST_DATA && k < from.length; k++) {
                values[slot * MOST_DATA + k] = from[k];
                sizes[slot] = k + 1;
            }
        }

        private int slotOf(int name, int type) {
            for (int s = 0; s < used; s++) {
                if (names[s] == name && types[s] == type) {
                    return s;
                }
            }
            return NONE;
        }

        private int firstToEnd() {
            int first = 0;
            for (int s = 1; s < used; s++) {
                boolean earlier = tills[s] < tills[first];
                boolean older = tills[s] == tills[first] && births[s] < births[first];
                if (earlier || older) {
                    first = s;
                }
            }
            return first;
        }
    }

    /** The FRAMES of a SEEKING; what is asked of them is asked of the uppermost one. */
    private static final class Frames {
        private final int[] names;
        private final int[] types;
        private final int[] chains;
        private final int[] places;
        private final int[] tried;
        private final int[] triedSizes;
        private final int[] sentFor;
        private final int[] sentForSizes;
        private int depth;
        // The uppermost FRAME; the first one also when all have ended.
        private int top;

        Frames() {
            names = new int[MOST_FRAMES];
            types = new int[MOST_FRAMES];
            chains = new int[MOST_FRAMES];
            places = new int[MOST_FRAMES];
            tried = new int[MOST_FRAMES * MOST_QUERIES];
            triedSizes = new int[MOST_FRAMES];
            sentFor = new int[MOST_FRAMES * MOST_NAMES];
            sentForSizes = new int[MOST_FRAMES];
            depth = 0;
            top = 0;
        }

        int depth() {
            return depth;
        }

        int topName() {
            return names[top];
        }

        int topType() {
            return types[top];
        }

        int topChains() {
            return chains[top];
        }

        int topPlace() {
            return places[top];
        }

        int firstName() {
            return names[0];
        }

        int firstChains() {
            return chains[0];
        }

        void clear() {
            depth = 0;
            top = 0;
        }

        boolean push(int name, int type) {
            if (depth >= MOST_FRAMES) {
                return false;
            }
            top = depth;
            depth++;
            names[top] = name;
            types[top] = type;
            chains[top] = 0;
            places[top] = NONE;
            forget();
            return true;
        }

        void pop() {
            depth = depth > 0 ? depth - 1 : 0;
            top = depth > 0 ? depth - 1 : 0;
        }

        void follow(int name) {
            names[top] = name;
            chains[top]++;
            forget();
        }

        void lead(int place) {
            if (places[top] != place) {
                places[top] = place;
                forget();
            }
        }

        boolean hasTried(int address) {
            for (int i = 0; i < triedSizes[top]; i++) {
                if (tried[top * MOST_QUERIES + i] == address) {
                    return true;
                }
            }
            return false;
        }

        void addTried(int address) {
            if (triedSizes[top] < MOST_QUERIES) {
                tried[top * MOST_QUERIES + triedSizes[top]] = address;
                triedSizes[top]++;
            }
        }

        boolean hasSentFor(int name) {
            for (int i = 0; i < sentForSizes[top]; i++) {
                if (sentFor[top * MOST_NAMES + i] == name) {
                    return true;
                }
            }
            return false;
        }

        void addSentFor(int name) {
            if (sentForSizes[top] < MOST_NAMES) {
                sentFor[top * MOST_NAMES + sentForSizes[top]] = name;
                sentForSizes[top]++;
            }
        }

        private void forget() {
            triedSizes[top] = 0;
            sentForSizes[top] = 0;
        }
    }

    /** The latest SEEKING, the HINTS, and what replies bring to the CACHE. */
    private static final class Seeker {
        private final Names names;
        private final Cache cache;
        private final Frames frames;
        private final int[] hints;
        private int hintsUsed;
        private int state;
        private int sent;
        private int sentEver;
        private boolean waiting;
        private int address;
        private final int[] found;
        private int foundUsed;
        // DATA on their way from a MESSAGE to the CACHE, and those of a SET that is read on later.
        private final int[] draft;
        private final int[] hosts;

        Seeker(Names names, Cache cache) {
            this.names = names;
            this.cache = cache;
            frames = new Frames();
            hints = new int[MOST_HINTS];
            hintsUsed = 0;
            state = NEVER;
            sent = 0;
            sentEver = 0;
            waiting = false;
            address = 0;
            found = new int[MOST_DATA];
            foundUsed = 0;
            draft = new int[MOST_DATA];
            hosts = new int[MOST_DATA];
        }

        int addHint(int hinted) {
            if (hintsUsed >= MOST_HINTS) {
                return NONE;
            }
            hints[hintsUsed] = hinted;
            hintsUsed++;
            return hintsUsed;
        }

        int hints() {
            return hintsUsed;
        }

        int state() {
            return state;
        }

        boolean isWaiting() {
            return waiting;
        }

        int address() {
            return address;
        }

        int id() {
            return sentEver & 65535;
        }

        int askedName() {
            return frames.topName();
        }

        int askedType() {
            return frames.topType();
        }

        int depth() {
            return frames.depth();
        }

        int place() {
            return frames.topPlace();
        }

        int sent() {
            return sent;
        }

        int sentEver() {
            return sentEver;
        }

        int firstChains() {
            return frames.firstChains();
        }

        int firstName() {
            return frames.firstName();
        }

        int foundSize() {
            return foundUsed;
        }

        int found(int k) {
            return k >= 0 && k < foundUsed ? found[k] : 0;
        }

        void begin(int name, int type) {
            state = GOING;
            sent = 0;
            foundUsed = 0;
            frames.clear();
            frames.push(name, type);
        }

        /** Goes on till a QUERY is out: 1, or the SEEKING ends: 0. */
        int goOn() {
            waiting = false;
            for (int k = 0; k < MOST_MOVES && state == GOING && !waiting; k++) {
                move();
            }
            if (!waiting && state == GOING) {
                state = FAILED;
            }
            return waiting ? 1 : 0;
        }

        boolean isAnsweredBy(Reader reader) {
            return reader.isReplyTo(id(), askedName(), askedType());
        }

        /** Takes what a reply to the QUERY that is out tells. */
        void learn(Reader reader) {
            Rows rows = reader.rows();
            int name = askedName();
            int type = askedType();
            if (keepSet(rows, 0, name, type) > 0) {
                return;
            }
            if (type != ALIAS && keepFirstAlias(rows, name)) {
                return;
            }
            int soa = rows.first(1, SOA);
            int code = reader.flags() & CODE_BITS;
            if (soa != NONE && code == CODE_ABSENT) {
                keepNothing(rows, soa, name, ANY_TYPE);
            } else if (soa != NONE && code == 0 && (reader.flags() & FLAG_AA) != 0) {
                keepNothing(rows, soa, name, type);
            } else {
                keepReferral(rows, name);
            }
        }

        private void move() {
            int name = frames.topName();
            int type = frames.topType();
            int set = cache.setOf(name, type);
            if (set != NONE) {
                endFrame(FOUND, set);
                return;
            }
            int alias = type == ALIAS ? NONE : cache.setOf(name, ALIAS);
            if (alias != NONE) {
                followAlias(alias);
            } else if (cache.held(name, ANY_TYPE) == 0) {
                endFrame(ABSENT, NONE);
            } else if (cache.held(name, type) == 0) {
                endFrame(EMPTY, NONE);
            } else {
                moveOut(name);
            }
        }

        private void followAlias(int alias) {
            if (frames.topChains() >= MOST_CHAINS) {
                endFrame(FAILED, NONE);
            } else {
                frames.follow(cache.valueOf(alias, 0));
            }
        }

        private void moveOut(int name) {
            int place = placeOf(name);
            frames.lead(place);
            int set = cache.setOf(place, HOST);
            boolean gone = set == NONE ? tryHints() : tryHosts(set);
            if (!gone && !sendForHost(set)) {
                endFrame(FAILED, NONE);
            }
        }

        private int placeOf(int name) {
            int at = name;
            for (int k = 0; k < MOST_LABELS && at != ROOT; k++) {
                if (cache.setOf(at, HOST) != NONE) {
                    return at;
                }
                at = names.above(at);
            }
            return ROOT;
        }

        private boolean tryHints() {
            for (int i = 0; i < hintsUsed; i++) {
                if (!frames.hasTried(hints[i])) {
                    sendTo(hints[i]);
                    return true;
                }
            }
            return false;
        }

        private boolean tryHosts(int set) {
            for (int i = 0; i < cache.sizeOf(set); i++) {
                int places = cache.setOf(cache.valueOf(set, i), ADDRESS);
                for (int j = 0; j < cache.sizeOf(places); j++) {
                    int next = cache.valueOf(places, j);
                    if (!frames.hasTried(next)) {
                        sendTo(next);
                        return true;
                    }
                }
            }
            return false;
        }

        private void sendTo(int next) {
            if (sent >= MOST_QUERIES) {
                state = FAILED;
                return;
            }
            frames.addTried(next);
            address = next;
            sent++;
            sentEver++;
            waiting = true;
        }

        /** Sends for the first host that nobody told of; false if there is none, or no FRAME for it. */
        private boolean sendForHost(int set) {
            for (int i = 0; i < cache.sizeOf(set); i++) {
                int host = cache.valueOf(set, i);
                if (cache.setOf(host, ADDRESS) == NONE && !frames.hasSentFor(host)) {
                    frames.addSentFor(host);
                    return frames.push(host, ADDRESS);
                }
            }
            return false;
        }

        private void endFrame(int how, int set) {
            frames.pop();
            if (frames.depth() > 0) {
                return;
            }
            state = how;
            foundUsed = 0;
            for (int k = 0; k < cache.sizeOf(set) && k < MOST_DATA; k++) {
                found[k] = cache.valueOf(set, k);
                foundUsed = k + 1;
            }
        }

        /** Answers how many DATA the SET has; where there are none it is not kept. */
        private int keepSet(Rows rows, int section, int owner, int type) {
            int size = 0;
            long least = ABOVE_LIVES;
            for (int r = 0; r < rows.size(); r++) {
                if (rows.isOf(r, section, owner, type)) {
                    least = Math.min(least, unsigned(rows.life(r)));
                    size = addUnlike(size, rows.value(r));
                }
            }
            if (size > 0) {
                cache.put(owner, type, draft, size, least);
            }
            return size;
        }

        private int addUnlike(int size, int value) {
            for (int k = 0; k < size && k < MOST_DATA; k++) {
                if (draft[k] == value) {
                    return size;
                }
            }
            if (size < 0 || size >= MOST_DATA) {
                return size;
            }
            draft[size] = value;
            return size + 1;
        }

        private boolean keepFirstAlias(Rows rows, int name) {
            for (int r = 0; r < rows.size(); r++) {
                if (rows.isOf(r, 0, name, ALIAS)) {
                    draft[0] = rows.value(r);
                    cache.put(name, ALIAS, draft, 1, unsigned(rows.life(r)));
                    return true;
                }
            }
            return false;
        }

        private void keepNothing(Rows rows, int soa, int name, int type) {
            long life = Math.min(unsigned(rows.life(soa)), unsigned(rows.value(soa)));
            cache.put(name, type, draft, 0, life);
        }

        private void keepReferral(Rows rows, int name) {
            int first = rows.first(1, HOST);
            if (first == NONE) {
                return;
            }
            int cut = rows.owner(first);
            int place = frames.topPlace();
            if (cut == place || !names.isIn(cut, place) || !names.isIn(name, cut)) {
                return;
            }
            int size = keepSet(rows, 1, cut, HOST);
            // The SETS that follow use the draft again, and may drive this one out of the CACHE.
            for (int k = 0; k < size && k < MOST_DATA; k++) {
                hosts[k] = draft[k];
            }
            for (int k = 0; k < size && k < MOST_DATA; k++) {
                keepSet(rows, 2, hosts[k], ADDRESS);
            }
        }

        private static long unsigned(int number) {
            return number & ABOVE_LIVES - 1;
        }
    }
}
