import java.util.Arrays;

/** Promises 8 to 13: ZONES, RECORDS, SERVERS and what these say. */
public final class ZonesTest {
    public static void main(String[] args) {
        zones();
        records();
        recordsAreFull();
        drops();
        servers();
        answers();
        referrals();
        lowestZone();
        namesToldOnce();
        tooLong();
        sayThrows();
        Check.finish();
    }

    private static void zones() {
        NameSeeker x = new NameSeeker();
        int a = Check.name(x, "a");
        Check.thrown("no such apex", IndexOutOfBoundsException.class, () -> x.zone(2, 1));
        Check.thrown("no apex below 0", IndexOutOfBoundsException.class, () -> x.zone(-1, 0));
        Check.thrown("minimum 0", IllegalArgumentException.class, () -> x.zone(a, 0));
        Check.thrown("minimum 100001", IllegalArgumentException.class, () -> x.zone(a, 100001));
        Check.due("first", x.zone(a, 100000), 0);
        Check.thrown("the same apex", IllegalArgumentException.class, () -> x.zone(a, 1));
        Check.due("second", x.zone(0, 1), 1);
        for (int k = 2; k < 12; k++) {
            int name = Check.name(x, "n" + k);
            Check.due("zone " + k, x.zone(name, 5), k);
        }
        int more = Check.name(x, "more");
        Check.thrown("the thirteenth", UnsupportedOperationException.class, () -> x.zone(more, 5));
        Check.thrown("the apex is told first", IllegalArgumentException.class, () -> x.zone(a, 5));
        Check.due("count", x.count(1), 12);
    }

    private static void records() {
        NameSeeker x = new NameSeeker();
        int xa = Check.name(x, "x.a");
        int a = Check.name(x, "a");
        int b = Check.name(x, "b");
        x.zone(a, 5);
        x.zone(0, 5);
        Check.thrown("no zone", IndexOutOfBoundsException.class, () -> x.record(2, a, 1, 0, 1));
        Check.thrown("no zone below 0", IndexOutOfBoundsException.class, () -> x.record(-1, a, 1, 0, 1));
        Check.thrown("no owner", IndexOutOfBoundsException.class, () -> x.record(0, 4, 7, 0, 0));
        Check.thrown("owner outside", IllegalArgumentException.class, () -> x.record(0, b, 1, 0, 1));
        Check.thrown("owner above", IllegalArgumentException.class, () -> x.record(0, 0, 1, 0, 1));
        for (int type : new int[] {0, 3, 6, 15, 17, -1, 65537}) {
            Check.thrown("type " + type, IllegalArgumentException.class, () -> x.record(0, a, type, 0, 1));
        }
        Check.thrown("life 0", IllegalArgumentException.class, () -> x.record(0, a, 1, 0, 0));
        Check.thrown("life 100001", IllegalArgumentException.class, () -> x.record(0, a, 1, 0, 100001));
        Check.thrown("no name 2", IllegalArgumentException.class, () -> x.record(0, a, 2, 4, 1));
        Check.thrown("no name 5", IllegalArgumentException.class, () -> x.record(0, a, 5, -1, 1));
        Check.due("none came", x.count(2), 0);
        Check.due("at the apex", x.record(0, a, 1, -7, 100000), 1);
        Check.due("below it", x.record(0, xa, 2, 3, 1), 2);
        Check.due("of another zone", x.record(1, b, 16, 99, 1), 1);
        Check.due("of the first", x.record(0, xa, 5, 0, 1), 3);
        Check.due("the same once more", x.record(0, xa, 5, 0, 1), 4);
        Check.due("count", x.count(2), 5);
    }

    private static void recordsAreFull() {
        NameSeeker x = new NameSeeker();
        int a = Check.name(x, "a");
        x.zone(0, 5);
        x.zone(a, 5);
        for (int k = 0; k < 75; k++) {
            x.record(0, 0, 1, k, 1);
            Check.due("record " + k, x.record(1, a, 1, k, 1), k + 1);
        }
        Check.thrown("the 151st", UnsupportedOperationException.class, () -> x.record(0, 0, 1, 0, 1));
        Check.thrown("life is told first", IllegalArgumentException.class, () -> x.record(0, 0, 1, 0, 0));
        Check.due("count", x.count(2), 150);
        Check.due("all go", x.drop(0, 0, 1), 75);
        Check.due("one comes", x.record(0, 0, 1, 0, 1), 1);
    }

    private static void drops() {
        NameSeeker x = new NameSeeker();
        int a = Check.name(x, "a");
        x.zone(0, 5);
        x.zone(a, 5);
        x.record(0, a, 1, 1, 10);
        x.record(0, a, 16, 2, 10);
        x.record(1, a, 1, 3, 10);
        x.record(0, a, 1, 4, 10);
        x.record(0, 0, 1, 5, 10);
        Check.thrown("no zone", IndexOutOfBoundsException.class, () -> x.drop(2, a, 1));
        Check.thrown("no owner", IndexOutOfBoundsException.class, () -> x.drop(0, 2, 1));
        Check.due("of no type", x.drop(0, a, 77), 0);
        Check.due("two go", x.drop(0, a, 1), 2);
        Check.due("none is left", x.drop(0, a, 1), 0);
        Check.due("count", x.count(2), 3);
        Check.due("the other zone's stays", x.drop(1, a, 1), 1);
        Check.due("the other type's stays", x.drop(0, a, 16), 1);
        Check.due("the other owner's stays", x.drop(0, 0, 1), 1);
    }

    private static void servers() {
        NameSeeker x = new NameSeeker();
        x.zone(0, 5);
        Check.due("first", x.server(-5), 0);
        Check.thrown("the same", IllegalArgumentException.class, () -> x.server(-5));
        for (int k = 1; k < 12; k++) {
            Check.due("server " + k, x.server(k), k);
        }
        Check.thrown("the thirteenth", UnsupportedOperationException.class, () -> x.server(99));
        Check.thrown("the address is told first", IllegalArgumentException.class, () -> x.server(3));
        Check.due("count", x.count(3), 12);
        Check.thrown("no server", IndexOutOfBoundsException.class, () -> x.serve(12, 0, true) ? 1 : 0);
        Check.thrown("no server below 0", IndexOutOfBoundsException.class, () -> x.serve(-1, 0, true) ? 1 : 0);
        Check.thrown("no zone", IndexOutOfBoundsException.class, () -> x.serve(0, 1, true) ? 1 : 0);
        Check.due("not yet", x.serve(11, 0, false), false);
        Check.due("now", x.serve(11, 0, true), true);
        Check.due("already", x.serve(11, 0, true), false);
        Check.due("no more", x.serve(11, 0, false), true);
        Check.due("of another server", x.serve(10, 0, false), false);
    }

    /** What is said must be as long as the MESSAGE that is given, and read like it. */
    private static void same(String what, NameSeeker x, int server, int name, int type, Check.Message want) {
        Check.due(what + ": bytes", x.say(server, name, type), want.bytes.size());
        Check.due(what + ": tape", x.count(8), want.bytes.size());
        int size = x.parse();
        int[][] said = rows(x, size);
        want.feedTo(x);
        Check.due(what + ": records", x.parse(), size);
        Check.due(what + ": rows", Arrays.deepEquals(said, rows(x, size)), true);
    }

    private static int[][] rows(NameSeeker x, int size) {
        int[][] all = new int[Math.max(size, 0)][5];
        for (int k = 0; k < size; k++) {
            for (int what = 0; what < 5; what++) {
                all[k][what] = x.parsed(k, what);
            }
        }
        return all;
    }

    private static void answers() {
        NameSeeker x = new NameSeeker();
        int wa = Check.name(x, "w.a");
        int a = Check.name(x, "a");
        int deep = Check.name(x, "q.p.a");
        int pa = Check.name(x, "p.a");
        int no = Check.name(x, "no.a");
        x.zone(a, 70);
        x.server(1);
        x.serve(0, 0, true);
        x.record(0, wa, 1, 0x01020304, 9);
        x.record(0, wa, 16, -1, 8);
        x.record(0, wa, 1, 5, 7);
        x.record(0, deep, 5, wa, 6);
        x.record(0, deep, 5, a, 6);
        x.record(0, deep, 1, 55, 6);
        x.record(0, a, 2, wa, 5);
        int lead = 0xc0;
        same("addresses", x, 0, wa, 1, new Check.Message(0, 0x8400, 2, 0, 0).question("w.a", 1)
            .raw(lead, 12).two(1).two(1).four(9).two(4).four(0x01020304)
            .raw(lead, 12).two(1).two(1).four(7).two(4).four(5));
        same("number", x, 0, wa, 16, new Check.Message(0, 0x8400, 1, 0, 0).question("w.a", 16)
            .raw(lead, 12).two(16).two(1).four(8).two(5).raw(4).four(-1));
        same("first alias only", x, 0, deep, 1, new Check.Message(0, 0x8400, 1, 0, 0).question("q.p.a", 1)
            .raw(lead, 12).two(5).two(1).four(6).two(4).raw(1, 'w', lead, 16));
        same("all aliases where these are asked", x, 0, deep, 5, new Check.Message(0, 0x8400, 2, 0, 0)
            .question("q.p.a", 5).raw(lead, 12).two(5).two(1).four(6).two(4).raw(1, 'w', lead, 16)
            .raw(lead, 12).two(5).two(1).four(6).two(2).raw(lead, 16));
        same("hosts of the apex are no cut", x, 0, a, 2, new Check.Message(0, 0x8400, 1, 0, 0).question("a", 2)
            .raw(lead, 12).two(2).two(1).four(5).two(4).raw(1, 'w', lead, 12));
        Check.Message soa = new Check.Message(0, 0x8400, 0, 1, 0).question("p.a", 1)
            .raw(lead, 14).two(6).two(1).four(70).two(22).two(0).four(1).four(0).four(0).four(0).four(70);
        same("empty", x, 0, pa, 1, soa);
        x.hint(1);
        code("empty above an owner", x, pa, 1, 1);
        code("empty of a type", x, wa, 2, 1);
        code("absent", x, no, 1, 2);
        Check.due("apex of the type of an SOA", x.say(0, a, 6), 12 + 7 + 12 + 22);
        Check.due("apex of a type beyond two bytes", x.say(0, a, 65536 + 2), 12 + 7 + 12 + 22);
        Check.due("apex of a type below 0", x.say(0, a, -1), 12 + 7 + 12 + 22);
        Check.due("nothing of the root", x.say(0, 0, 1), 0);
        Check.due("the tape is empty", x.count(8), 0);
        x.drop(0, a, 2);
        x.drop(0, wa, 1);
        x.drop(0, wa, 16);
        code("absent now", x, wa, 1, 2);
        x.drop(0, deep, 1);
        x.drop(0, deep, 5);
        code("nothing is below it now", x, pa, 1, 2);
        code("the apex is there without records", x, a, 1, 1);
    }

    /** The flags of what is said are seen by what a seeking makes of them: 1 EMPTY, 2 ABSENT. */
    private static void code(String what, NameSeeker x, int name, int type, int want) {
        x.tick(100);
        x.ask(name, type);
        x.step();
        Check.due(what, x.result(0), want);
    }

    private static void referrals() {
        NameSeeker x = new NameSeeker();
        int xba = Check.name(x, "x.b.a");
        int a = Check.name(x, "a");
        int ba = Check.name(x, "b.a");
        int ns1 = Check.name(x, "ns1.b.a");
        int ns2 = Check.name(x, "ns2");
        int ns3 = Check.name(x, "ns3");
        x.zone(0, 5);
        x.server(1);
        x.serve(0, 0, true);
        x.record(0, ns2, 1, 22, 2);
        x.record(0, ba, 2, ns3, 4);
        x.record(0, xba, 1, 77, 4);
        x.record(0, ba, 2, ns1, 3);
        x.record(0, ns1, 1, 11, 1);
        x.record(0, ns1, 16, 11, 1);
        x.record(0, ba, 2, ns2, 3);
        x.record(0, ba, 2, ns1, 3);
        Check.due("cut: four hosts, two addresses", referral(x, xba, 1), 6);
        Check.due("first host", x.parsed(0, 3), ns3);
        Check.due("its life", x.parsed(0, 4), 4);
        Check.due("its owner", x.parsed(0, 1), ba);
        Check.due("its section", x.parsed(0, 0), 1);
        Check.due("addresses by the zone's order", x.parsed(4, 1), ns2);
        Check.due("and the second", x.parsed(5, 1), ns1);
        Check.due("third section", x.parsed(5, 0), 2);
        Check.due("at the cut itself, its own type", referral(x, ba, 2), 6);
        x.record(0, xba, 2, ns2, 9);
        Check.due("the highest cut", referral(x, xba, 16), 6);
        Check.due("is b.a", x.parsed(0, 1), ba);
        x.record(0, a, 2, a, 9);
        Check.due("a higher one", referral(x, xba, 16), 1);
        Check.due("is a", x.parsed(0, 1), a);
    }

    private static int referral(NameSeeker x, int name, int type) {
        x.say(0, name, type);
        return x.parse();
    }

    private static void lowestZone() {
        NameSeeker x = new NameSeeker();
        int ba = Check.name(x, "b.a");
        int a = Check.name(x, "a");
        x.zone(0, 5);
        x.zone(ba, 5);
        x.zone(a, 5);
        x.server(1);
        x.record(0, ba, 1, 100, 1);
        x.record(1, ba, 1, 101, 1);
        x.record(2, ba, 1, 102, 1);
        Check.due("serves nothing", x.say(0, ba, 1), 0);
        x.serve(0, 0, true);
        Check.due("of the root", told(x, ba), 100);
        int deep = Check.name(x, "f.e.d.c.b.a");
        x.record(0, deep, 1, 106, 1);
        Check.due("six labels under the root", told(x, deep), 106);
        x.serve(0, 1, true);
        Check.due("of b.a", told(x, ba), 101);
        x.serve(0, 2, true);
        Check.due("still of b.a", told(x, ba), 101);
        x.serve(0, 1, false);
        Check.due("of a", told(x, ba), 102);
    }

    private static int told(NameSeeker x, int name) {
        x.say(0, name, 1);
        return x.parse() == 1 ? x.parsed(0, 3) : -1;
    }

    private static void namesToldOnce() {
        NameSeeker x = new NameSeeker();
        int xba = Check.name(x, "x.bb.aaa");
        int bb = Check.name(x, "bb.aaa");
        int y = Check.name(x, "y.cc.bb.aaa");
        int z = Check.name(x, "z.cc.bb.aaa");
        int w = Check.name(x, "w");
        x.zone(0, 5);
        x.server(1);
        x.serve(0, 0, true);
        x.record(0, bb, 2, y, 1);
        x.record(0, bb, 2, z, 1);
        x.record(0, bb, 2, 0, 1);
        x.record(0, bb, 2, w, 1);
        x.record(0, w, 1, 1, 1);
        // 12 + (2+3+4+1+4) = 26; owner at 14 by two bytes each and ten more.
        // y.cc and a lead: 2+3+2; z and a lead to cc: 2+2; the root: 1; w: 3; then w by a lead.
        int want = 26 + (12 + 7) + (12 + 4) + (12 + 1) + (12 + 3) + (12 + 4);
        Check.due("each told once", x.say(0, xba, 1), want);
        Check.due("and read again", x.parse(), 5);
        int[] hosts = {y, z, 0, w};
        for (int k = 0; k < 4; k++) {
            Check.due("host " + k, x.parsed(k, 3), hosts[k]);
        }
        Check.due("address of w", x.parsed(4, 1), w);
    }

    private static void tooLong() {
        NameSeeker x = new NameSeeker();
        int a = Check.name(x, "abcdefg");
        x.zone(0, 5);
        x.server(1);
        x.serve(0, 0, true);
        x.hint(1);
        // 12 + 9 + 4 = 25; sixty addresses of 16 bytes: 985.
        for (int k = 0; k < 60; k++) {
            x.record(0, a, 1, k, 1);
        }
        Check.due("985 bytes", x.say(0, a, 1), 985);
        x.record(0, a, 1, 60, 1);
        Check.due("1001 bytes", x.say(0, a, 1), 0);
        Check.due("empty", x.count(8), 0);
        x.ask(a, 1);
        Check.due("nothing comes of it", x.step(), 0);
        Check.due("failed", x.result(0), 3);
        NameSeeker y = new NameSeeker();
        int b = Check.name(y, "abcdef");
        y.zone(0, 5);
        y.server(1);
        y.serve(0, 0, true);
        for (int k = 0; k < 61; k++) {
            y.record(0, b, 1, k, 1);
        }
        Check.due("1000 bytes", y.say(0, b, 1), 1000);
        Check.due("and read", y.parse(), 61);
    }

    private static void sayThrows() {
        NameSeeker x = new NameSeeker();
        x.zone(0, 5);
        x.server(1);
        x.serve(0, 0, true);
        x.feed(1, 2, 3, 4, 5);
        Check.thrown("no server", IndexOutOfBoundsException.class, () -> x.say(1, 0, 1));
        Check.thrown("no server below 0", IndexOutOfBoundsException.class, () -> x.say(-1, 0, 1));
        Check.thrown("no name", IndexOutOfBoundsException.class, () -> x.say(0, 1, 1));
        Check.due("the tape is as it was", x.count(8), 20);
        Check.due("in its place", x.say(0, 0, 1), 12 + 5 + 11 + 22);
    }
}
