import java.util.ArrayList;
import java.util.Arrays;
import java.util.HashMap;
import java.util.HashSet;
import java.util.LinkedHashSet;
import java.util.List;
import java.util.Map;
import java.util.NoSuchElementException;
import java.util.Set;

/**
 * The document once more, written with texts and lists and without a thought of room or speed, so
 * that a slip in the one program is not likely to be in the other one, too.
 */
final class Model {
    static final class Rec {
        int zone;
        int section;
        String owner;
        int type;
        int number;
        String name;
        long life;

        Object datum() {
            return name != null ? name : (Object) number;
        }
    }

    static final class Kept {
        String name;
        int type;
        List<Object> data = new ArrayList<>();
        long till;
    }

    static final class Frame {
        String name;
        int type;
        int chains;
        String place;
        Set<Integer> tried = new HashSet<>();
        Set<String> sentFor = new HashSet<>();

        void fresh() {
            tried.clear();
            sentFor.clear();
        }
    }

    static final class Fault extends Exception {
        private static final long serialVersionUID = 1L;
        final int number;

        Fault(int number) {
            this.number = number;
        }
    }

    List<Integer> tape = new ArrayList<>();
    final List<String> names = new ArrayList<>(List.of("."));
    final List<String> apexes = new ArrayList<>();
    final List<Integer> minimums = new ArrayList<>();
    final List<Rec> records = new ArrayList<>();
    final List<Integer> servers = new ArrayList<>();
    final Set<String> serving = new HashSet<>();
    final List<Integer> hints = new ArrayList<>();
    final List<Kept> cache = new ArrayList<>();
    int now;
    List<Rec> latest = new ArrayList<>();

    final List<Frame> frames = new ArrayList<>();
    Frame first;
    int state = 5;
    int sent;
    int ever;
    boolean out;
    int address;
    List<Object> found = new ArrayList<>();

    // what the latest reading found
    int id;
    int flags;
    String askedName;
    int askedType;
    int askedClass;
    List<Rec> read;

    static List<String> labels(String name) {
        return name.equals(".") ? new ArrayList<>() : new ArrayList<>(Arrays.asList(name.split("\\.", -1)));
    }

    static String above(String name) {
        int point = name.indexOf('.');
        return point <= 0 ? "." : name.substring(point + 1);
    }

    static boolean in(String name, String over) {
        return over.equals(".") || name.equals(over) || name.endsWith("." + over);
    }

    int feed(int a, int b, int c, int d, int e) {
        if (tape.size() > 980) {
            return -1;
        }
        for (int v : new int[] {a, b, c, d, e}) {
            for (int s = 24; s >= 0; s -= 8) {
                tape.add(v >>> s & 255);
            }
        }
        return tape.size();
    }

    boolean end(int n) {
        if (n < 0 || n > tape.size()) {
            return false;
        }
        tape = new ArrayList<>(tape.subList(0, n));
        return true;
    }

    boolean turn(int i, int v) {
        if (i < 0 || i >= tape.size()) {
            return false;
        }
        tape.set(i, v & 255);
        return true;
    }

    int name() {
        StringBuilder text = new StringBuilder();
        for (int v : tape) {
            text.append((char) v);
        }
        tape = new ArrayList<>();
        String name = text.toString();
        if (!name.equals(".") && !name.matches("[a-z0-9-]{1,10}(\\.[a-z0-9-]{1,10}){0,5}")) {
            throw new IllegalArgumentException();
        }
        int more = 0;
        for (String n = name; !names.contains(n); n = above(n)) {
            more++;
        }
        if (names.size() + more > 300) {
            throw new UnsupportedOperationException();
        }
        make(name);
        return names.indexOf(name);
    }

    boolean make(String name) {
        if (names.contains(name)) {
            return true;
        }
        if (!make(above(name)) || names.size() == 300) {
            return false;
        }
        return names.add(name);
    }

    String needName(int name) {
        if (name < 0 || name >= names.size()) {
            throw new IndexOutOfBoundsException();
        }
        return names.get(name);
    }

    void need(int i, List<?> row) {
        if (i < 0 || i >= row.size()) {
            throw new IndexOutOfBoundsException();
        }
    }

    int look(int name, int what) {
        String n = needName(name);
        if (what == 0) {
            return labels(n).size();
        }
        if (what == 1) {
            return names.indexOf(above(n));
        }
        if (what == 2) {
            return n.length();
        }
        throw new NoSuchElementException();
    }

    int text(int name, int i) {
        String n = needName(name);
        return i < 0 || i >= n.length() ? -1 : n.charAt(i);
    }

    static boolean life(int n) {
        return 1 <= n && n <= 100000;
    }

    static boolean kept(int type) {
        return List.of(1, 2, 5, 16).contains(type);
    }

    int zone(int apex, int minimum) {
        String n = needName(apex);
        if (!life(minimum) || apexes.contains(n)) {
            throw new IllegalArgumentException();
        }
        if (apexes.size() == 12) {
            throw new UnsupportedOperationException();
        }
        apexes.add(n);
        minimums.add(minimum);
        return apexes.size() - 1;
    }

    int record(int zone, int owner, int type, int data, int life) {
        need(zone, apexes);
        String n = needName(owner);
        if (!in(n, apexes.get(zone)) || !kept(type) || !life(life)) {
            throw new IllegalArgumentException();
        }
        boolean named = type == 2 || type == 5;
        if (named && (data < 0 || data >= names.size())) {
            throw new IllegalArgumentException();
        }
        if (records.size() == 150) {
            throw new UnsupportedOperationException();
        }
        Rec r = new Rec();
        r.zone = zone;
        r.owner = n;
        r.type = type;
        r.number = data;
        r.name = named ? names.get(data) : null;
        r.life = life;
        records.add(r);
        return (int) records.stream().filter(q -> q.zone == zone).count();
    }

    int drop(int zone, int owner, int type) {
        need(zone, apexes);
        String n = needName(owner);
        int before = records.size();
        records.removeIf(r -> r.zone == zone && r.owner.equals(n) && r.type == type);
        return before - records.size();
    }

    int server(int address) {
        if (servers.contains(address)) {
            throw new IllegalArgumentException();
        }
        if (servers.size() == 12) {
            throw new UnsupportedOperationException();
        }
        servers.add(address);
        return servers.size() - 1;
    }

    boolean serve(int server, int zone, boolean on) {
        need(server, servers);
        need(zone, apexes);
        String key = server + "/" + zone;
        return on ? serving.add(key) : serving.remove(key);
    }

    // ---- what a server says

    List<Integer> bytes;
    Map<String, Integer> places;

    void put(int size, long v) {
        for (int s = size - 1; s >= 0; s--) {
            bytes.add((int) (v >> 8 * s & 255));
        }
    }

    void putName(String name) {
        String n = name;
        while (!n.equals(".")) {
            if (places.containsKey(n)) {
                put(2, 49152 + places.get(n));
                return;
            }
            places.put(n, bytes.size());
            String label = labels(n).get(0);
            put(1, label.length());
            for (char c : label.toCharArray()) {
                put(1, c);
            }
            n = above(n);
        }
        put(1, 0);
    }

    void putRecord(Rec r) {
        putName(r.owner);
        put(2, r.type);
        put(2, 1);
        put(4, r.life);
        int at = bytes.size();
        put(2, 0);
        if (r.type == 1) {
            put(4, r.number);
        } else if (r.type == 16) {
            put(1, 4);
            put(4, r.number);
        } else if (r.type == 6) {
            put(2, 0);
            for (long v : new long[] {1, 0, 0, 0, r.number}) {
                put(4, v);
            }
        } else {
            putName(r.name);
        }
        int length = bytes.size() - at - 2;
        bytes.set(at, length >> 8);
        bytes.set(at + 1, length & 255);
    }

    List<Rec> of(int zone, String owner, int type) {
        List<Rec> all = new ArrayList<>();
        for (Rec r : records) {
            if (r.zone == zone && r.owner.equals(owner) && r.type == type) {
                all.add(r);
            }
        }
        return all;
    }

    /** null where nothing is said. */
    List<Integer> said(int server, String name, int type, int number) {
        int zone = -1;
        for (int z = 0; z < apexes.size(); z++) {
            if (serving.contains(server + "/" + z) && in(name, apexes.get(z))
                    && (zone < 0 || labels(apexes.get(z)).size() > labels(apexes.get(zone)).size())) {
                zone = z;
            }
        }
        if (zone < 0) {
            return null;
        }
        String cut = null;
        for (Rec r : records) {
            if (r.zone == zone && r.type == 2 && !r.owner.equals(apexes.get(zone)) && in(name, r.owner)
                    && (cut == null || r.owner.length() < cut.length())) {
                cut = r.owner;
            }
        }
        List<List<Rec>> sections = List.of(new ArrayList<>(), new ArrayList<>(), new ArrayList<>());
        int said = 32768;
        if (cut != null) {
            sections.get(1).addAll(of(zone, cut, 2));
            for (Rec r : records) {
                boolean host = sections.get(1).stream().anyMatch(q -> q.name.equals(r.owner));
                if (r.zone == zone && r.type == 1 && host) {
                    sections.get(2).add(r);
                }
            }
        } else {
            said += 1024;
            if (type != 5 && !of(zone, name, 5).isEmpty()) {
                sections.get(0).add(of(zone, name, 5).get(0));
            } else if (!of(zone, name, type).isEmpty()) {
                sections.get(0).addAll(of(zone, name, type));
            } else {
                Rec soa = new Rec();
                soa.owner = apexes.get(zone);
                soa.type = 6;
                soa.life = minimums.get(zone);
                soa.number = minimums.get(zone);
                sections.get(1).add(soa);
                int z = zone;
                boolean there = records.stream().anyMatch(r -> r.zone == z && in(r.owner, name));
                said += there || name.equals(apexes.get(zone)) ? 0 : 3;
            }
        }
        bytes = new ArrayList<>();
        places = new HashMap<>();
        put(2, number);
        put(2, said);
        put(2, 1);
        for (List<Rec> section : sections) {
            put(2, section.size());
        }
        putName(name);
        put(2, type);
        put(2, 1);
        for (List<Rec> section : sections) {
            for (Rec r : section) {
                putRecord(r);
            }
        }
        return bytes.size() > 1000 ? null : bytes;
    }

    int say(int server, int name, int type) {
        need(server, servers);
        List<Integer> all = said(server, needName(name), type, 0);
        tape = all == null ? new ArrayList<>() : new ArrayList<>(all);
        return tape.size();
    }

    // ---- reading

    List<Integer> source;
    int at;

    int byteAt(int i) throws Fault {
        if (i >= source.size()) {
            throw new Fault(3);
        }
        return source.get(i);
    }

    long take(int size) throws Fault {
        long v = 0;
        for (int k = 0; k < size; k++) {
            v = v << 8 | byteAt(at++);
        }
        return v;
    }

    String readName() throws Fault {
        List<String> all = new ArrayList<>();
        int start = at;
        int p = at;
        int behind = -1;
        while (true) {
            int v = byteAt(p++);
            if (v == 0) {
                break;
            }
            if (v >= 192) {
                int place = (v - 192) * 256 + byteAt(p++);
                if (behind < 0) {
                    behind = p;
                }
                if (place >= start) {
                    throw new Fault(2);
                }
                start = place;
                p = place;
                continue;
            }
            if (v > 10 || all.size() == 6) {
                throw new Fault(2);
            }
            StringBuilder label = new StringBuilder();
            for (int k = 0; k < v; k++) {
                char c = (char) byteAt(p++);
                if ("abcdefghijklmnopqrstuvwxyz0123456789-".indexOf(c) < 0) {
                    throw new Fault(2);
                }
                label.append(c);
            }
            all.add(label.toString());
        }
        at = behind < 0 ? p : behind;
        String name = all.isEmpty() ? "." : String.join(".", all);
        if (!make(name)) {
            throw new Fault(6);
        }
        return name;
    }

    void readData(Rec r, int end) throws Fault {
        int begin = at;
        if (r.type == 1 || r.type == 16 || r.type == 6) {
            int length = r.type == 1 ? 4 : r.type == 16 ? 5 : 22;
            if (end - begin != length || r.type == 16 && byteAt(begin) != 4) {
                throw new Fault(4);
            }
            if (r.type == 6 && (byteAt(begin) != 0 || byteAt(begin + 1) != 0)) {
                throw new Fault(4);
            }
            at = end - 4;
            r.number = (int) take(4);
        } else if (r.type == 2 || r.type == 5) {
            try {
                r.name = readName();
            } catch (Fault f) {
                throw f.number == 6 ? f : new Fault(4);
            }
            if (at != end) {
                throw new Fault(4);
            }
        }
        at = end;
    }

    int read(List<Integer> message) {
        source = message;
        read = new ArrayList<>();
        try {
            at = 4;
            if (message.size() < 12 || take(2) != 1) {
                return 1;
            }
            at = 0;
            id = (int) take(2);
            flags = (int) take(2);
            at = 6;
            long[] counts = {take(2), take(2), take(2)};
            askedName = readName();
            askedType = (int) take(2);
            askedClass = (int) take(2);
            for (int section = 0; section < 3; section++) {
                for (int k = 0; k < counts[section]; k++) {
                    Rec r = new Rec();
                    r.section = section;
                    r.owner = readName();
                    r.type = (int) take(2);
                    int kind = (int) take(2);
                    r.life = take(4);
                    int length = (int) take(2);
                    if (at + length > source.size()) {
                        return 3;
                    }
                    readData(r, at + length);
                    if (kind == 1 && (kept(r.type) || r.type == 6)) {
                        read.add(r);
                    }
                }
            }
            return at < source.size() ? 5 : 0;
        } catch (Fault f) {
            return f.number;
        }
    }

    int parse() {
        int fault = read(tape);
        tape = new ArrayList<>();
        if (fault == 0) {
            latest = read;
        }
        return fault == 0 ? latest.size() : -fault;
    }

    int number(Object datum) {
        return datum instanceof String ? names.indexOf(datum) : (Integer) datum;
    }

    int parsed(int k, int what) {
        if (k < 0 || k >= latest.size() || what < 0 || what > 4) {
            throw new NoSuchElementException();
        }
        Rec r = latest.get(k);
        return new int[] {r.section, names.indexOf(r.owner), r.type, number(r.datum()), (int) r.life}[what];
    }

    int hint(int address) {
        if (hints.size() == 4) {
            return -1;
        }
        hints.add(address);
        return hints.size();
    }

    int tick(int n) {
        if (n < 0 || n > 100000) {
            throw new IllegalArgumentException();
        }
        now += n;
        return now;
    }

    // ---- cache and seeking

    void keep(String name, int type, List<Object> data, long life) {
        boolean was = cache.removeIf(k -> k.name.equals(name) && k.type == type);
        if (!was && cache.size() == 100) {
            Kept least = cache.get(0);
            for (Kept k : cache) {
                least = k.till < least.till ? k : least;
            }
            cache.remove(least);
        }
        Kept k = new Kept();
        k.name = name;
        k.type = type;
        k.data = data;
        k.till = now + life;
        cache.add(k);
    }

    Kept holds(String name, int type) {
        for (Kept k : cache) {
            if (k.name.equals(name) && k.type == type && now < k.till) {
                return k;
            }
        }
        return null;
    }

    List<Object> set(String name, int type) {
        Kept k = holds(name, type);
        return k == null || k.data.isEmpty() ? null : k.data;
    }

    boolean nothing(String name, int type) {
        Kept k = holds(name, type);
        return k != null && k.data.isEmpty();
    }

    Frame top() {
        return frames.get(frames.size() - 1);
    }

    void close(int how, List<Object> data) {
        frames.remove(frames.size() - 1);
        if (frames.isEmpty()) {
            state = how;
            found = new ArrayList<>(data);
        }
    }

    void push(String name, int type) {
        Frame f = new Frame();
        f.name = name;
        f.type = type;
        frames.add(f);
    }

    int go() {
        out = false;
        while (state == 4 && !out) {
            turnOver(top());
        }
        return out ? 1 : 0;
    }

    void turnOver(Frame f) {
        List<Object> set = set(f.name, f.type);
        if (set != null) {
            close(0, set);
            return;
        }
        List<Object> alias = set(f.name, 5);
        if (f.type != 5 && alias != null) {
            if (f.chains == 8) {
                close(3, List.of());
            } else {
                f.chains++;
                f.name = (String) alias.get(0);
                f.fresh();
            }
            return;
        }
        if (nothing(f.name, 0)) {
            close(2, List.of());
            return;
        }
        if (nothing(f.name, f.type)) {
            close(1, List.of());
            return;
        }
        String place = f.name;
        while (set(place, 2) == null && !place.equals(".")) {
            place = above(place);
        }
        if (!place.equals(f.place)) {
            f.place = place;
            f.fresh();
        }
        List<Object> hosts = set(place, 2);
        List<Integer> addresses = new ArrayList<>();
        if (hosts == null) {
            addresses.addAll(hints);
        } else {
            for (Object host : hosts) {
                List<Object> some = set((String) host, 1);
                if (some != null) {
                    some.forEach(a -> addresses.add((Integer) a));
                }
            }
        }
        for (int a : addresses) {
            if (!f.tried.contains(a)) {
                if (sent == 40) {
                    state = 3;
                    frames.clear();
                    return;
                }
                f.tried.add(a);
                sent++;
                ever++;
                out = true;
                address = a;
                return;
            }
        }
        for (Object host : hosts == null ? List.of() : hosts) {
            if (set((String) host, 1) == null && !f.sentFor.contains(host)) {
                f.sentFor.add((String) host);
                if (frames.size() == 4) {
                    close(3, List.of());
                } else {
                    push((String) host, 1);
                }
                return;
            }
        }
        close(3, List.of());
    }

    int ask(int name, int type) {
        String n = needName(name);
        if (state == 4) {
            throw new IllegalStateException();
        }
        if (!kept(type)) {
            throw new IllegalArgumentException();
        }
        frames.clear();
        push(n, type);
        first = top();
        state = 4;
        sent = 0;
        found = new ArrayList<>();
        return go();
    }

    void needQuery() {
        if (!out) {
            throw new IllegalStateException();
        }
    }

    boolean isReply() {
        return id == (ever & 65535) && askedName.equals(top().name) && askedType == top().type && askedClass == 1
                && flags >= 32768;
    }

    List<Rec> pick(int section, String owner, int type) {
        List<Rec> all = new ArrayList<>();
        for (Rec r : read) {
            if (r.section == section && r.type == type && (owner == null || r.owner.equals(owner))) {
                all.add(r);
            }
        }
        return all;
    }

    List<Object> keepSet(List<Rec> all) {
        Set<Object> unlike = new LinkedHashSet<>();
        long least = 1L << 40;
        for (Rec r : all) {
            unlike.add(r.datum());
            least = Math.min(least, r.life);
        }
        List<Object> data = new ArrayList<>(unlike);
        if (data.size() > 10) {
            data = new ArrayList<>(data.subList(0, 10));
        }
        keep(all.get(0).owner, all.get(0).type, data, least);
        return data;
    }

    void learn() {
        Frame f = top();
        List<Rec> soas = pick(1, null, 6);
        List<Rec> hosts = pick(1, null, 2);
        if (!pick(0, f.name, f.type).isEmpty()) {
            keepSet(pick(0, f.name, f.type));
        } else if (f.type != 5 && !pick(0, f.name, 5).isEmpty()) {
            keepSet(pick(0, f.name, 5).subList(0, 1));
        } else if (!soas.isEmpty() && (flags % 16 == 3 || flags % 16 == 0 && (flags & 1024) > 0)) {
            long life = Math.min(soas.get(0).life, soas.get(0).number & 0xffffffffL);
            keep(f.name, flags % 16 == 3 ? 0 : f.type, new ArrayList<>(), life);
        } else if (!hosts.isEmpty()) {
            String cut = hosts.get(0).owner;
            if (in(cut, f.place) && !cut.equals(f.place) && in(f.name, cut)) {
                for (Object host : keepSet(pick(1, cut, 2))) {
                    List<Rec> some = pick(2, (String) host, 1);
                    if (!some.isEmpty()) {
                        keepSet(some);
                    }
                }
            }
        }
    }

    int step() {
        needQuery();
        int server = servers.indexOf(address);
        List<Integer> all = server < 0 ? null : said(server, top().name, top().type, ever & 65535);
        if (all != null && read(all) == 0 && isReply()) {
            learn();
        }
        return go();
    }

    int lose() {
        needQuery();
        return go();
    }

    int forge() {
        List<Integer> all = tape;
        tape = new ArrayList<>();
        needQuery();
        if (read(all) != 0 || !isReply()) {
            return -1;
        }
        learn();
        return go();
    }

    int query(int what) {
        needQuery();
        if (what < 0 || what > 5) {
            throw new NoSuchElementException();
        }
        Frame f = top();
        return new int[] {address, ever & 65535, names.indexOf(f.name), f.type, frames.size(),
            names.indexOf(f.place)}[what];
    }

    int result(int what) {
        if (what < 0 || what > 4) {
            throw new NoSuchElementException();
        }
        if (state == 5) {
            return what == 0 ? 5 : 0;
        }
        return new int[] {state, found.size(), first.chains, names.indexOf(first.name), sent}[what];
    }

    int data(int k) {
        return k < 0 || k >= found.size() ? 0 : number(found.get(k));
    }

    int cached(int name, int type) {
        Kept k = holds(needName(name), type);
        return k == null ? -1 : k.data.size();
    }

    int count(int what) {
        return what < 0 || what > 8 ? -1 : new int[] {names.size(), apexes.size(), records.size(), servers.size(),
            hints.size(), now, cache.size(), ever, tape.size()}[what];
    }
}
