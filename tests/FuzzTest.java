import java.util.ArrayList;
import java.util.List;
import java.util.Map;
import java.util.Random;
import java.util.TreeMap;

/** Long random runs, always the same ones, of which NameSeeker and Model must tell the same. */
public final class FuzzTest {
    private static final int RUNS = 6000;
    private static final int CALLS = 500;
    private static final int[] TYPES = {1, 1, 1, 2, 5, 16};
    private static final String[] LABELS = {"a", "b", "c", "ns", "w-1", "longlabel0"};

    private static final Map<String, Integer> seen = new TreeMap<>();

    private final Random random;
    private final NameSeeker x = new NameSeeker();
    private final Model m = new Model();
    private final StringBuilder log = new StringBuilder();
    private boolean same = true;
    private int calls = 0;

    private FuzzTest(long seed) {
        random = new Random(seed);
    }

    public static void main(String[] args) {
        boolean tellSeen = args.length > 0;
        for (int seed = 1; seed <= RUNS; seed++) {
            FuzzTest run = new FuzzTest(seed);
            run.go(seed % 8);
            if (!run.same) {
                System.out.println("run " + seed + ":" + run.log);
                Check.due("run " + seed, 0, 1);
                break;
            }
        }
        // A fuzz that no longer comes to these places would be worth little.
        String[] wanted = {"parse -1", "parse -2", "parse -3", "parse -4", "parse -5", "parse -6", "result 0",
            "result 1", "result 2", "result 3", "forge -1", "forge 0", "forge 1", "frames 4", "chains 8", "sent 40",
            "cache 100", "names 300"};
        for (String place : wanted) {
            Check.due("came to " + place, seen.containsKey(place), true);
        }
        if (tellSeen) {
            System.out.println(seen);
        }
        Check.finish();
    }

    private static void see(String what) {
        seen.merge(what, 1, Integer::sum);
    }

    private static String outcome(Check.Call call) {
        try {
            return "" + call.run();
        } catch (RuntimeException e) {
            return e.getClass().getName();
        }
    }

    private String both(String what, Check.Call a, Check.Call b) {
        if (!same || calls >= CALLS) {
            return "";
        }
        calls++;
        String got = outcome(a);
        String want = outcome(b);
        log.append("\n  ").append(what).append(" = ").append(got);
        if (!got.equals(want)) {
            log.append(", due is ").append(want);
            same = false;
        }
        return got;
    }

    private int any(int n) {
        return random.nextInt(n);
    }

    private boolean oneIn(int n) {
        return any(n) == 0;
    }

    private int type() {
        return oneIn(40) ? any(20) - 1 : TYPES[any(TYPES.length)];
    }

    private int aName() {
        return oneIn(60) ? any(3) - 1 + m.names.size() : oneIn(60) ? -1 : any(m.names.size());
    }

    private int anAddress() {
        return 10 + any(8);
    }

    private int life() {
        return oneIn(50) ? any(3) * 100000 : 1 + any(60);
    }

    private String aText() {
        StringBuilder text = new StringBuilder();
        int labels = 1 + any(oneIn(10) ? 7 : 4);
        for (int k = 0; k < labels; k++) {
            text.append(k > 0 ? "." : "").append(LABELS[any(LABELS.length)]);
        }
        if (oneIn(25)) {
            text.insert(any(text.length() + 1), "._A.-x".charAt(any(6)));
        }
        return text.toString();
    }

    private void feed(List<Integer> bytes) {
        int stood = m.tape.size();
        for (int i = 0; i < bytes.size(); i += 20) {
            int[] v = new int[5];
            for (int k = 0; k < 20; k++) {
                v[k / 4] = v[k / 4] << 8 | (i + k < bytes.size() ? bytes.get(i + k) : 0);
            }
            both("feed(" + v[0] + ", " + v[1] + ", " + v[2] + ", " + v[3] + ", " + v[4] + ")",
                () -> x.feed(v[0], v[1], v[2], v[3], v[4]), () -> m.feed(v[0], v[1], v[2], v[3], v[4]));
        }
        end(stood + bytes.size());
    }

    private void end(int n) {
        both("end(" + n + ")", () -> x.end(n) ? 1 : 0, () -> m.end(n) ? 1 : 0);
    }

    private void turn(int i, int v) {
        both("turn(" + i + ", " + v + ")", () -> x.turn(i, v) ? 1 : 0, () -> m.turn(i, v) ? 1 : 0);
    }

    private void name(String text) {
        end(0);
        List<Integer> bytes = new ArrayList<>();
        for (char c : text.toCharArray()) {
            bytes.add((int) c);
        }
        feed(bytes);
        both("name()", x::name, m::name);
    }

    private void zone() {
        int apex = oneIn(4) ? 0 : aName();
        int minimum = life();
        String z = both("zone(" + apex + ", " + minimum + ")", () -> x.zone(apex, minimum), () -> m.zone(apex, minimum));
        if (z.length() > 0 && z.length() < 3) {
            serve(any(Math.max(1, m.servers.size())), Integer.parseInt(z), true);
        }
    }

    private void record() {
        int zone = any(m.apexes.size() + (oneIn(20) ? 1 : 0) + (m.apexes.isEmpty() ? 1 : 0));
        int owner = aName();
        for (int k = 0; k < 20 && zone < m.apexes.size() && owner >= 0 && owner < m.names.size()
                && !Model.in(m.names.get(owner), m.apexes.get(zone)); k++) {
            owner = aName();
        }
        record(zone, owner, type());
    }

    private void record(int zone, int owner, int type) {
        int data = type == 2 || type == 5 ? aName() : type == 1 ? anAddress() : random.nextInt();
        int life = life();
        both("record(" + zone + ", " + owner + ", " + type + ", " + data + ", " + life + ")",
            () -> x.record(zone, owner, type, data, life), () -> m.record(zone, owner, type, data, life));
    }

    private void serve(int server, int zone, boolean on) {
        both("serve(" + server + ", " + zone + ", " + on + ")", () -> x.serve(server, zone, on) ? 1 : 0,
            () -> m.serve(server, zone, on) ? 1 : 0);
    }

    private void server() {
        int address = anAddress();
        both("server(" + address + ")", () -> x.server(address), () -> m.server(address));
    }

    private void hint(int address) {
        both("hint(" + address + ")", () -> x.hint(address), () -> m.hint(address));
    }

    private void say() {
        int server = any(Math.max(1, m.servers.size()) + (oneIn(20) ? 1 : 0));
        int name = m.out && oneIn(2) ? m.names.indexOf(m.top().name) : aName();
        int type = oneIn(10) ? random.nextInt() : type();
        both("say(" + server + ", " + name + ", " + type + ")", () -> x.say(server, name, type),
            () -> m.say(server, name, type));
    }

    private void spoil() {
        int n = any(4);
        for (int k = 0; k < n; k++) {
            int i = any(m.tape.size() + 1);
            turn(i, oneIn(3) ? 192 : oneIn(2) ? any(16) : any(256));
        }
        if (oneIn(4)) {
            end(any(m.tape.size() + 2) - 1);
        }
    }

    private void parse() {
        String got = both("parse()", x::parse, m::parse);
        if (got.startsWith("-")) {
            see("parse " + got);
        } else {
            for (int k = 0; k < m.latest.size() && k < 3; k++) {
                int r = any(m.latest.size() + 1);
                int what = any(6);
                both("parsed(" + r + ", " + what + ")", () -> x.parsed(r, what), () -> m.parsed(r, what));
            }
        }
    }

    private void putName(List<Integer> bytes, int within) {
        if (oneIn(3)) {
            bytes.add(192);
            bytes.add(within > 12 && oneIn(2) ? 12 : any(Math.min(256, within + 2)));
            return;
        }
        String text = oneIn(4) ? aText() : m.names.get(any(m.names.size()));
        for (String label : Model.labels(text)) {
            bytes.add(label.length());
            for (char c : label.toCharArray()) {
                bytes.add((int) c);
            }
        }
        bytes.add(0);
    }

    private static void put(List<Integer> bytes, int size, long v) {
        for (int s = size - 1; s >= 0; s--) {
            bytes.add((int) (v >> 8 * s & 255));
        }
    }

    private void putRecord(List<Integer> bytes, String owner) {
        if (owner == null) {
            putName(bytes, bytes.size());
        } else {
            for (String label : Model.labels(owner)) {
                bytes.add(label.length());
                for (char c : label.toCharArray()) {
                    bytes.add((int) c);
                }
            }
            bytes.add(0);
        }
        int type = oneIn(5) ? 6 : type();
        put(bytes, 2, type);
        put(bytes, 2, oneIn(15) ? any(4) : 1);
        put(bytes, 4, oneIn(10) ? random.nextInt() : any(60));
        int at = bytes.size();
        put(bytes, 2, 0);
        if (type == 2 || type == 5) {
            putName(bytes, at + 2);
        } else if (type == 16) {
            put(bytes, 1, oneIn(20) ? 5 : 4);
            put(bytes, 4, any(4));
        } else if (type == 1) {
            put(bytes, 4, anAddress());
        } else {
            put(bytes, 22, oneIn(5) ? -1 : any(90));
        }
        int length = bytes.size() - at - 2 + (oneIn(60) ? any(3) - 1 : 0);
        bytes.set(at, length >> 8 & 255);
        bytes.set(at + 1, length & 255);
    }

    /** A MESSAGE that nobody said, most often one that could be a reply. */
    private void craft() {
        List<Integer> bytes = new ArrayList<>();
        String name = m.out ? m.top().name : m.names.get(any(m.names.size()));
        String place = m.out ? m.top().place : ".";
        put(bytes, 2, oneIn(20) ? 77 : m.ever);
        put(bytes, 2, (oneIn(20) ? 0 : 32768) + (oneIn(2) ? 1024 : 0) + (oneIn(3) ? 3 : oneIn(8) ? any(1000) : 0));
        put(bytes, 2, oneIn(30) ? 2 : 1);
        int most = oneIn(4) ? 20 : 4;
        int[] sizes = {any(most), any(most), any(most)};
        for (int n : sizes) {
            put(bytes, 2, n + (oneIn(60) ? 1 : 0));
        }
        for (String label : Model.labels(name)) {
            put(bytes, 1, label.length());
            for (char c : label.toCharArray()) {
                put(bytes, 1, c);
            }
        }
        put(bytes, 1, 0);
        put(bytes, 2, m.out && !oneIn(20) ? m.top().type : type());
        put(bytes, 2, oneIn(40) ? 2 : 1);
        for (int section = 0; section < 3; section++) {
            for (int k = 0; k < sizes[section] && bytes.size() < 900; k++) {
                String owner = null;
                if (section == 0 && oneIn(2)) {
                    owner = name;
                } else if (section == 1 && !oneIn(3)) {
                    owner = name;
                    for (int up = any(5); up > 0 && !Model.above(owner).equals(place); up--) {
                        owner = Model.above(owner);
                    }
                }
                putRecord(bytes, owner);
            }
        }
        if (oneIn(30)) {
            bytes.add(0);
        }
        end(0);
        feed(bytes);
    }

    private void forge() {
        see("forge " + both("forge()", x::forge, m::forge));
    }

    private void ask() {
        int name = aName();
        int type = type();
        both("ask(" + name + ", " + type + ")", () -> x.ask(name, type), () -> m.ask(name, type));
    }

    private void lookAround() {
        int what = any(8) - 1;
        int name = aName();
        int type = oneIn(4) ? 0 : type();
        both("query(" + what + ")", () -> x.query(what), () -> m.query(what));
        both("result(" + what + ")", () -> x.result(what), () -> m.result(what));
        both("cached(" + name + ", " + type + ")", () -> x.cached(name, type), () -> m.cached(name, type));
        both("data(" + what + ")", () -> x.data(what), () -> m.data(what));
        both("look(" + name + ", " + what + ")", () -> x.look(name, what), () -> m.look(name, what));
        both("text(" + name + ", " + what + ")", () -> x.text(name, what), () -> m.text(name, what));
        both("count(" + (what + 2) + ")", () -> x.count(what + 2), () -> m.count(what + 2));
    }

    private void note() {
        if (m.state < 4) {
            see("result " + m.state);
        }
        if (m.first != null) {
            see("chains " + m.first.chains);
        }
        see("frames " + m.frames.size());
        see("sent " + m.sent);
        see("cache " + m.cache.size());
        see("names " + m.names.size());
    }

    private void setUp(int names, int zones, int records) {
        hint(10);
        hint(11);
        for (int k = 0; k < 6; k++) {
            server();
        }
        for (int k = 0; k < names; k++) {
            name(aText());
        }
        for (int k = 0; k < zones; k++) {
            zone();
        }
        for (int k = 0; k < records; k++) {
            record();
        }
    }

    /** RECORDS of a TYPE that nobody knows, whose OWNERS are mostly new. */
    private void crowd(int wanted) {
        List<Integer> bytes = new ArrayList<>();
        put(bytes, 2, 0);
        put(bytes, 2, 0);
        put(bytes, 2, 1);
        put(bytes, 6, wanted);
        put(bytes, 1, 0);
        put(bytes, 4, 1);
        for (int k = 0; k < wanted && bytes.size() < 960; k++) {
            for (int labels = 1 + any(6); labels > 0; labels--) {
                put(bytes, 1, 1);
                put(bytes, 1, 'a' + any(26));
            }
            put(bytes, 1, 0);
            put(bytes, 4, 99L << 16);
            put(bytes, 6, 0);
        }
        end(0);
        feed(bytes);
        parse();
    }

    /** Far more addresses than a SEEKING may ask, and more DATA than a SET may have. */
    private void referWidely() {
        String name = m.top().name;
        List<Integer> bytes = new ArrayList<>();
        put(bytes, 2, m.ever);
        put(bytes, 2, 32768);
        put(bytes, 2, 1);
        put(bytes, 2, 0);
        int hosts = 3 + any(10);
        int addresses = 15 + any(30);
        put(bytes, 2, hosts);
        put(bytes, 2, addresses);
        for (String label : Model.labels(name)) {
            put(bytes, 1, label.length());
            for (char c : label.toCharArray()) {
                put(bytes, 1, c);
            }
        }
        put(bytes, 1, 0);
        put(bytes, 2, m.top().type);
        put(bytes, 2, 1);
        for (int k = 0; k < hosts; k++) {
            put(bytes, 2, 49164);
            put(bytes, 4, (2L << 16) + 1);
            put(bytes, 4, 5 + any(300));
            put(bytes, 2, 4);
            put(bytes, 2, 256 + 'a' + k);
            put(bytes, 2, 49164);
        }
        for (int k = 0; k < addresses; k++) {
            put(bytes, 2, 256 + 'a' + any(oneIn(2) ? 2 : 12));
            put(bytes, 2, 49164);
            put(bytes, 4, (1L << 16) + 1);
            put(bytes, 4, 5 + any(300));
            put(bytes, 2, 4);
            put(bytes, 4, any(80));
        }
        end(0);
        feed(bytes);
        forge();
    }

    private void crowdedRun() {
        hint(10);
        server();
        zoneAt(0);
        crowd(8 + any(30));
        for (int k = 0; k < 40; k++) {
            record(0, aName(), type());
        }
        for (int k = 0; k < CALLS && calls < CALLS && same; k++) {
            if (oneIn(8)) {
                turnOfKind(0);
            } else {
                ask();
                both("step()", x::step, m::step);
            }
            note();
        }
    }

    private void wideRun() {
        hint(10);
        name("a");
        name("b.a");
        for (int k = 0; k < CALLS && calls < CALLS && same; k++) {
            if (m.out && m.top().place.equals(".")) {
                referWidely();
            } else if (m.out) {
                both("lose()", x::lose, m::lose);
            } else {
                int n = 1 + any(m.names.size() - 1);
                both("ask(" + n + ", 16)", () -> x.ask(n, 16), () -> m.ask(n, 16));
            }
            if (oneIn(10)) {
                lookAround();
            }
            note();
        }
    }

    private void zoneAt(int apex) {
        int minimum = life();
        both("zone(" + apex + ", " + minimum + ")", () -> x.zone(apex, minimum), () -> m.zone(apex, minimum));
        for (int k = 0; k < m.servers.size(); k++) {
            serve(k, m.apexes.size() - 1, true);
        }
    }

    private void go(int kind) {
        if (kind == 5) {
            crowdedRun();
            return;
        }
        if (kind == 6) {
            wideRun();
            return;
        }
        if (kind == 7) {
            crowd(90);
            crowd(90);
            crowd(90);
        }
        setUp(kind == 4 ? 3 : 8 + any(8), 3 + any(6), kind == 3 ? 110 : 25 + any(40));
        for (int k = 0; k < CALLS && calls < CALLS && same; k++) {
            turnOfKind(kind);
            note();
        }
        both("count(0)", () -> x.count(0), () -> m.count(0));
    }

    private void turnOfKind(int kind) {
        int dice = any(100);
        if (kind == 2 && dice < 60 || kind == 4 && dice < 95) {
            craft();
            if (m.out) {
                forge();
            } else if (oneIn(2)) {
                parse();
            } else {
                ask();
            }
        } else if (dice < 20) {
            ask();
        } else if (dice < 65) {
            both("step()", x::step, m::step);
        } else if (dice < 70) {
            both("lose()", x::lose, m::lose);
        } else if (dice < 80) {
            say();
            spoil();
            if (oneIn(2)) {
                turn(1, m.ever);
                forge();
            } else {
                parse();
            }
        } else if (dice < 84) {
            record();
        } else if (dice < 86) {
            int zone = any(m.apexes.size() + 1);
            int owner = aName();
            int type = type();
            both("drop(" + zone + ", " + owner + ", " + type + ")", () -> x.drop(zone, owner, type),
                () -> m.drop(zone, owner, type));
        } else if (dice < 90) {
            int n = oneIn(20) ? -1 : oneIn(20) ? 100000 + any(2) : any(12);
            both("tick(" + n + ")", () -> x.tick(n), () -> m.tick(n));
        } else if (dice < 92) {
            name(aText());
        } else if (dice < 94) {
            hint(anAddress());
            server();
            zone();
            serve(any(m.servers.size() + 1), any(m.apexes.size() + 1), oneIn(2));
        } else {
            lookAround();
        }
    }
}
