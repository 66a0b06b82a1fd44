import java.util.Arrays;
import java.util.function.Supplier;

/** Terms 1 and 2 and promises 8 to 13: a method for each sentence that names a boundary, told above it. */
public final class EdgesOfZonesTest {
    private static final int LEAD = 0xc0;
    private static final int[] NO_LIVES = {Integer.MIN_VALUE, -1, 0, 100001, Integer.MAX_VALUE};
    private static final int[] FAR = {Integer.MIN_VALUE, -1, 12, Integer.MAX_VALUE};

    public static void main(String[] args) {
        zoneNoSuchApex();
        zoneMinimum();
        zoneOneOfAnApex();
        zonesAreTwelve();
        recordNoSuchZoneOrOwner();
        recordOwnerInApex();
        recordTypes();
        recordLife();
        recordDataIsAName();
        recordsAre150();
        recordHowManyOfThatZone();
        dropHowMany();
        dropLeavesOthers();
        dropNoSuch();
        serverOneOfAnAddress();
        serversAreTwelve();
        serveAnotherState();
        serveNoSuch();
        sayNoSuch();
        saysNothing();
        lowestApex();
        apexIsNoCut();
        highestCut();
        addressesEachOnce();
        typeFive();
        allOfThatType();
        codeThree();
        typeOfTwoBytes();
        thousandBytes();
        idAndFlags();
        bytesOfAnAnswer();
        bytesOfAReferral();
        bytesOfAnSoa();
        namesWrittenFirst();
        Check.finish();
    }

    /** Promise 8, and "IndexOutOfBoundsException: there is no such NAME", told ahead of all else. */
    private static void zoneNoSuchApex() {
        NameSeeker x = new NameSeeker();
        for (int apex : new int[] {Integer.MIN_VALUE, -1, 1, 300, Integer.MAX_VALUE}) {
            Check.thrown("apex " + apex, IndexOutOfBoundsException.class, () -> x.zone(apex, 1));
            Check.thrown("apex " + apex + ", no minimum", IndexOutOfBoundsException.class, () -> x.zone(apex, 0));
        }
        Check.due("no zone came", x.count(1), 0);
        Check.due("the root is one", x.zone(0, 1), 0);
    }

    /** Terms 1: "a MINIMUM (1 to 100000)"; promise 8: "minimum is none". */
    private static void zoneMinimum() {
        NameSeeker x = new NameSeeker();
        Check.name(x, "a");
        for (int minimum : NO_LIVES) {
            Check.thrown("minimum " + minimum, IllegalArgumentException.class, () -> x.zone(0, minimum));
        }
        Check.due("no zone came", x.count(1), 0);
        Check.due("minimum 1", x.zone(0, 1), 0);
        Check.due("minimum 100000", x.zone(1, 100000), 1);
    }

    /** Terms 1: "an APEX (no two have one)"; promise 8: "or there is one of that APEX". */
    private static void zoneOneOfAnApex() {
        NameSeeker x = new NameSeeker();
        Check.name(x, "b.a");
        x.zone(1, 5);
        Check.thrown("the same", IllegalArgumentException.class, () -> x.zone(1, 6));
        Check.due("above it", x.zone(0, 5), 1);
        Check.due("below it", x.zone(2, 5), 2);
        Check.due("three", x.count(1), 3);
    }

    private static NameSeeker withTwelveZones() {
        NameSeeker x = new NameSeeker();
        Scene.fillNames(x, 20);
        for (int k = 0; k < 12; k++) {
            Check.due("zone " + k, x.zone(k, 1 + k), k);
        }
        return x;
    }

    /** Promise 8: "UnsupportedOperationException: there are 12", told behind all else. */
    private static void zonesAreTwelve() {
        NameSeeker x = withTwelveZones();
        Check.thrown("the thirteenth", UnsupportedOperationException.class, () -> x.zone(12, 1));
        Check.thrown("without a minimum", IllegalArgumentException.class, () -> x.zone(12, 0));
        Check.thrown("of an apex that has one", IllegalArgumentException.class, () -> x.zone(11, 1));
        Check.thrown("of no name", IndexOutOfBoundsException.class, () -> x.zone(20, 1));
        Check.due("twelve", x.count(1), 12);
    }

    /** Promise 9, and "IndexOutOfBoundsException: there is no such NAME, ZONE", told ahead of all else. */
    private static void recordNoSuchZoneOrOwner() {
        NameSeeker x = Scene.rooted();
        for (int far : new int[] {Integer.MIN_VALUE, -1, 1, 12, 300, Integer.MAX_VALUE}) {
            Check.thrown("zone " + far, IndexOutOfBoundsException.class, () -> x.record(far, 0, 1, 0, 1));
            Check.thrown("owner " + far, IndexOutOfBoundsException.class, () -> x.record(0, far, 1, 0, 1));
            Check.thrown("all wrong but zone", IndexOutOfBoundsException.class, () -> x.record(0, far, 3, 0, 0));
            Check.thrown("all wrong but owner", IndexOutOfBoundsException.class, () -> x.record(far, 0, 3, 0, 0));
        }
        Check.due("none came", x.count(2), 0);
    }

    /** Promise 9: "OWNER is not IN the APEX"; terms 1: "if it is that or under it, however far". */
    private static void recordOwnerInApex() {
        NameSeeker x = new NameSeeker();
        int deep = Check.name(x, "f.e.d.c.b.a");
        int beside = Check.name(x, "x.a");
        int alike = Check.name(x, "b");
        x.zone(2, 5);
        x.zone(0, 5);
        x.zone(deep, 5);
        Check.due("the apex", x.record(0, 2, 1, 0, 1), 1);
        Check.due("under it", x.record(0, 3, 1, 0, 1), 2);
        Check.due("far under it", x.record(0, deep, 1, 0, 1), 3);
        Check.thrown("above it", IllegalArgumentException.class, () -> x.record(0, 1, 1, 0, 1));
        Check.thrown("the root", IllegalArgumentException.class, () -> x.record(0, 0, 1, 0, 1));
        Check.thrown("beside it", IllegalArgumentException.class, () -> x.record(0, beside, 1, 0, 1));
        Check.thrown("a like label elsewhere", IllegalArgumentException.class, () -> x.record(0, alike, 1, 0, 1));
        Check.due("six under the root", x.record(1, deep, 1, 0, 1), 1);
        Check.due("the root's own", x.record(1, 0, 1, 0, 1), 2);
        Check.due("an apex of six", x.record(2, deep, 1, 0, 1), 1);
        Check.thrown("five of six", IllegalArgumentException.class, () -> x.record(2, 5, 1, 0, 1));
        Check.due("six came", x.count(2), 6);
    }

    /** Promise 9: "TYPE not 1, 2, 5, 16". */
    private static void recordTypes() {
        NameSeeker x = Scene.rooted();
        int came = 0;
        for (int type = -2; type <= 20; type++) {
            int t = type;
            if (t == 1 || t == 2 || t == 5 || t == 16) {
                came++;
                Check.due("type " + t, x.record(0, 0, t, 0, 1), came);
            } else {
                Check.thrown("type " + t, IllegalArgumentException.class, () -> x.record(0, 0, t, 0, 1));
            }
        }
        for (int t : new int[] {Integer.MIN_VALUE, 257, 65537, 65538, Integer.MAX_VALUE}) {
            Check.thrown("type " + t, IllegalArgumentException.class, () -> x.record(0, 0, t, 0, 1));
        }
        Check.due("four", x.count(2), 4);
    }

    /** Terms 1: "a LIFE (1 to 100000)"; promise 9: "LIFE is none". */
    private static void recordLife() {
        NameSeeker x = Scene.rooted();
        for (int life : NO_LIVES) {
            Check.thrown("life " + life, IllegalArgumentException.class, () -> x.record(0, 0, 1, 0, life));
        }
        Check.due("life 1", x.record(0, 0, 1, 5, 1), 1);
        Check.due("life 100000", x.record(0, 0, 1, 6, 100000), 2);
        x.say(0, 0, 1);
        Check.due("both are said", x.parse(), 2);
        Check.due("as 1", x.parsed(0, 4), 1);
        Check.due("as 100000", x.parsed(1, 4), 100000);
    }

    /** Promise 9: "DATA is no NAME where it must be one"; terms 1: "TYPE 1: an address, any number". */
    private static void recordDataIsAName() {
        NameSeeker x = Scene.rooted();
        Check.name(x, "a");
        int came = 0;
        for (int type : Scene.TYPES) {
            boolean named = type == 2 || type == 5;
            for (int data : new int[] {Integer.MIN_VALUE, -1, 0, 1, 2, 300, Integer.MAX_VALUE}) {
                String what = "type " + type + ", data " + data;
                if (named && data != 0 && data != 1) {
                    Check.thrown(what, IllegalArgumentException.class, () -> x.record(0, 1, type, data, 1));
                } else {
                    came++;
                    Check.due(what, x.record(0, 1, type, data, 1), came);
                }
            }
        }
        x.drop(0, 1, 2);
        x.drop(0, 1, 5);
        for (int type : new int[] {1, 16}) {
            x.say(0, 1, type);
            Check.due("seven numbers", x.parse(), 7);
            Check.due("the least", x.parsed(0, 3), Integer.MIN_VALUE);
            Check.due("the greatest", x.parsed(6, 3), Integer.MAX_VALUE);
        }
    }

    /** Terms 1: "at most 150 in all"; promise 9: "UnsupportedOperationException: there are 150." */
    private static void recordsAre150() {
        NameSeeker x = new NameSeeker();
        Check.name(x, "a");
        x.zone(0, 5);
        x.zone(1, 5);
        for (int k = 1; k <= 149; k++) {
            x.record(0, 0, 16, k, 1);
        }
        Check.due("the 150th, of another zone", x.record(1, 1, 1, 9, 1), 1);
        for (int zone = 0; zone < 2; zone++) {
            int z = zone;
            Check.thrown("the 151st of " + z, UnsupportedOperationException.class, () -> x.record(z, 1, 1, 0, 1));
            Check.thrown("no type in " + z, IllegalArgumentException.class, () -> x.record(z, 1, 3, 0, 1));
            Check.thrown("no life in " + z, IllegalArgumentException.class, () -> x.record(z, 1, 1, 0, 0));
            Check.thrown("no name in " + z, IllegalArgumentException.class, () -> x.record(z, 1, 2, 2, 1));
            Check.thrown("no owner in " + z, IndexOutOfBoundsException.class, () -> x.record(z, 2, 1, 0, 1));
        }
        Check.thrown("outside", IllegalArgumentException.class, () -> x.record(1, 0, 1, 0, 1));
        Check.thrown("no zone", IndexOutOfBoundsException.class, () -> x.record(2, 0, 1, 0, 1));
        Check.due("150", x.count(2), 150);
        x.server(1);
        x.serve(0, 1, true);
        x.say(0, 1, 1);
        Check.due("the last one is said", x.parse(), 1);
        Check.due("its data", x.parsed(0, 3), 9);
        Check.due("one goes", x.drop(1, 1, 1), 1);
        Check.due("a host comes", x.record(0, 1, 2, 1, 1), 150);
        x.serve(0, 0, true);
        x.serve(0, 1, false);
        x.say(0, 1, 1);
        Check.due("a referral of a full zone", x.parse(), 1);
        Check.due("and that goes", x.drop(0, 1, 2), 1);
        Check.due("one comes", x.record(0, 0, 1, 0, 1), 150);
        Check.thrown("full again", UnsupportedOperationException.class, () -> x.record(0, 0, 1, 0, 1));
    }

    /** Promise 9: "A RECORD comes to the end of a ZONE's: how many it has." */
    private static void recordHowManyOfThatZone() {
        NameSeeker x = new NameSeeker();
        Check.name(x, "a");
        x.zone(0, 5);
        x.zone(1, 5);
        Check.due("first", x.record(0, 1, 1, 7, 1), 1);
        Check.due("of the other", x.record(1, 1, 1, 7, 1), 1);
        Check.due("second, alike", x.record(0, 1, 1, 7, 1), 2);
        x.server(1);
        x.serve(0, 0, true);
        Check.due("both alike are said", x.say(0, 1, 1), 12 + 7 + 16 + 16);
        x.drop(0, 1, 1);
        Check.due("first again", x.record(0, 1, 1, 7, 1), 1);
    }

    /** Promise 10: "All RECORDS of an OWNER and TYPE go: how many." */
    private static void dropHowMany() {
        NameSeeker x = Scene.rooted();
        Check.name(x, "b.a");
        Check.due("of an empty zone", x.drop(0, 0, 1), 0);
        for (int k = 0; k < 150; k++) {
            x.record(0, k == 149 ? 2 : 1, 1, k, 1);
        }
        Check.due("of one above", x.drop(0, 0, 1), 0);
        Check.due("of another type", x.drop(0, 1, 2), 0);
        for (int type : new int[] {Integer.MIN_VALUE, -1, 0, 6, 65537, Integer.MAX_VALUE}) {
            Check.due("of type " + type, x.drop(0, 1, type), 0);
        }
        Check.due("149", x.drop(0, 1, 1), 149);
        Check.due("one is left", x.count(2), 1);
        Check.due("no more", x.drop(0, 1, 1), 0);
        Check.due("the one under it stayed", x.drop(0, 2, 1), 1);
        Check.due("none is left", x.count(2), 0);
    }

    /** Promise 10: those that do not go stay as they were, in their order. */
    private static void dropLeavesOthers() {
        NameSeeker x = Scene.rooted();
        Check.name(x, "a");
        Check.name(x, "m");
        for (int k = 0; k < 9; k++) {
            x.record(0, k % 3, k % 3 == 1 ? 2 : 1, k % 3 == 1 ? 2 : 50 + k, 1 + k);
        }
        Check.due("three go", x.drop(0, 0, 1), 3);
        x.say(0, 1, 1);
        Check.due("hosts and addresses", x.parse(), 6);
        int[] data = {2, 2, 2, 52, 55, 58};
        int[] lives = {2, 5, 8, 3, 6, 9};
        for (int k = 0; k < 6; k++) {
            Check.due("data " + k, x.parsed(k, 3), data[k]);
            Check.due("life " + k, x.parsed(k, 4), lives[k]);
        }
        x.record(0, 0, 16, 1, 1);
        Check.due("an address from the end goes", x.drop(0, 2, 1), 3);
        x.say(0, 1, 1);
        Check.due("it is not told any more", x.parse(), 3);
        Check.due("the hosts go", x.drop(0, 1, 2), 3);
        x.record(0, 2, 1, 60, 1);
        x.say(0, 1, 1);
        Check.due("so there is no cut", x.parse(), 1);
        Check.due("but the soa", x.parsed(0, 2), 6);
        x.record(0, 1, 2, 0, 1);
        x.say(0, 1, 1);
        Check.due("a new host without an address", x.parse(), 1);
        Check.due("is told", x.parsed(0, 2), 2);
        NameSeeker y = Scene.rooted();
        Check.name(y, "a");
        Check.name(y, "m");
        y.record(0, 1, 2, 0, 9);
        y.record(0, 2, 1, 5, 9);
        y.record(0, 1, 2, 2, 9);
        y.drop(0, 1, 2);
        y.record(0, 1, 2, 0, 9);
        y.say(0, 1, 1);
        Check.due("m is its host no more", y.parse(), 1);
        y.record(0, 0, 1, 6, 9);
        y.say(0, 1, 1);
        Check.due("where its host is", y.parse(), 2);
        y.drop(0, 0, 1);
        y.say(0, 1, 1);
        Check.due("where its host was", y.parse(), 1);
    }

    /** Promise 10, and "IndexOutOfBoundsException: there is no such NAME, ZONE". */
    private static void dropNoSuch() {
        NameSeeker x = Scene.rooted();
        x.record(0, 0, 1, 1, 1);
        for (int far : new int[] {Integer.MIN_VALUE, -1, 1, 300, Integer.MAX_VALUE}) {
            Check.thrown("zone " + far, IndexOutOfBoundsException.class, () -> x.drop(far, 0, 1));
            Check.thrown("owner " + far, IndexOutOfBoundsException.class, () -> x.drop(0, far, 1));
        }
        Check.due("it stayed", x.count(2), 1);
    }

    /** Terms 1: "an address (no two have one)"; promise 11: "there is one of that address". */
    private static void serverOneOfAnAddress() {
        NameSeeker x = new NameSeeker();
        int[] any = {0, -1, Integer.MIN_VALUE, Integer.MAX_VALUE};
        for (int k = 0; k < any.length; k++) {
            Check.due("server at " + any[k], x.server(any[k]), k);
        }
        for (int address : any) {
            Check.thrown("another at " + address, IllegalArgumentException.class, () -> x.server(address));
        }
        Check.due("four", x.count(3), 4);
    }

    /** Promise 11: "UnsupportedOperationException: there are 12." */
    private static void serversAreTwelve() {
        NameSeeker x = new NameSeeker();
        for (int k = 0; k < 12; k++) {
            Check.due("server " + k, x.server(100 + k), k);
        }
        Check.thrown("the thirteenth", UnsupportedOperationException.class, () -> x.server(112));
        Check.thrown("of an address that has one", IllegalArgumentException.class, () -> x.server(111));
        Check.due("twelve", x.count(3), 12);
    }

    /** Promise 12: "A SERVER serves a ZONE, or not: whether that is another state than before." */
    private static void serveAnotherState() {
        NameSeeker x = withTwelveZones();
        for (int k = 0; k < 12; k++) {
            x.server(k);
        }
        int[][] edges = {{0, 0}, {0, 11}, {11, 0}, {11, 11}};
        for (int[] e : edges) {
            String what = "server " + e[0] + ", zone " + e[1];
            Check.due(what + " at first", x.serve(e[0], e[1], false), false);
            Check.due(what + " on", x.serve(e[0], e[1], true), true);
            Check.due(what + " on again", x.serve(e[0], e[1], true), false);
        }
        Check.due("another zone is as it was", x.serve(11, 10, false), false);
        Check.due("another server is as it was", x.serve(10, 11, false), false);
        for (int[] e : edges) {
            String what = "server " + e[0] + ", zone " + e[1];
            Check.due(what + " off", x.serve(e[0], e[1], false), true);
            Check.due(what + " off again", x.serve(e[0], e[1], false), false);
        }
    }

    /** Promise 12, and "IndexOutOfBoundsException: there is no such .. ZONE, SERVER". */
    private static void serveNoSuch() {
        NameSeeker x = new NameSeeker();
        Check.thrown("nothing is there", IndexOutOfBoundsException.class, () -> x.serve(0, 0, true) ? 1 : 0);
        x.zone(0, 1);
        Check.thrown("no server is there", IndexOutOfBoundsException.class, () -> x.serve(0, 0, true) ? 1 : 0);
        x.server(1);
        for (int far : new int[] {Integer.MIN_VALUE, -1, 1, 12, 32, Integer.MAX_VALUE}) {
            Check.thrown("server " + far, IndexOutOfBoundsException.class, () -> x.serve(far, 0, true) ? 1 : 0);
            Check.thrown("zone " + far, IndexOutOfBoundsException.class, () -> x.serve(0, far, true) ? 1 : 0);
            Check.thrown("zone off " + far, IndexOutOfBoundsException.class, () -> x.serve(0, far, false) ? 1 : 0);
        }
        Check.due("not yet", x.serve(0, 0, true), true);
    }

    /** Promise 13, and "IndexOutOfBoundsException: there is no such NAME, .. SERVER"; the TAPE is not used up. */
    private static void sayNoSuch() {
        NameSeeker x = Scene.rooted();
        x.feed(0, 0, 0, 0, 0);
        for (int far : FAR) {
            Check.thrown("server " + far, IndexOutOfBoundsException.class, () -> x.say(far, 0, 1));
            Check.thrown("name " + far, IndexOutOfBoundsException.class, () -> x.say(0, far, 1));
        }
        Check.thrown("server 1", IndexOutOfBoundsException.class, () -> x.say(1, 0, 1));
        Check.thrown("name 1", IndexOutOfBoundsException.class, () -> x.say(0, 1, 1));
        Check.due("the tape is as it was", x.count(8), 20);
    }

    /** Promise 13: "0, and the TAPE is empty, if it says nothing"; terms 2: "without one nothing". */
    private static void saysNothing() {
        NameSeeker x = new NameSeeker();
        Check.name(x, "b.a");
        Check.name(x, "c");
        x.zone(2, 5);
        x.server(1);
        x.feed(0, 0, 0, 0, 0);
        Check.due("serves no zone", x.say(0, 2, 1), 0);
        Check.due("empty", x.count(8), 0);
        x.serve(0, 0, true);
        for (int name : new int[] {0, 1, 3}) {
            x.feed(0, 0, 0, 0, 0);
            Check.due("not in the apex: " + name, x.say(0, name, 1), 0);
            Check.due("empty", x.count(8), 0);
        }
        for (int k = 0; k < 50; k++) {
            x.feed(0, 0, 0, 0, 0);
        }
        Check.due("the apex itself, in place of a full tape", x.say(0, 2, 1), 12 + 9 + 12 + 22);
        Check.due("so many", x.count(8), 55);
        x.serve(0, 0, false);
        Check.due("no more", x.say(0, 2, 1), 0);
        Check.due("empty", x.count(8), 0);
    }

    private static int told(NameSeeker x, int name) {
        x.say(0, name, 1);
        return x.parse() == 1 ? x.parsed(0, 3) : -1;
    }

    /** Terms 2: "of the ZONES that it serves in whose APEX the NAME is that with the lowest APEX". */
    private static void lowestApex() {
        NameSeeker x = new NameSeeker();
        int deep = Check.name(x, "f.e.d.c.b.a");
        x.server(1);
        int[] order = {3, 6, 0, 5, 1, 4, 2};
        for (int z = 0; z < order.length; z++) {
            x.zone(order[z], 5);
            x.record(z, deep, 1, 100 + order[z], 1);
        }
        int lowest = -1;
        for (int z : new int[] {2, 4, 6, 0, 5, 3, 1}) {
            x.serve(0, z, true);
            lowest = Math.max(lowest, order[z]);
            Check.due("down to " + lowest, told(x, deep), 100 + lowest);
        }
        x.serve(0, 1, false);
        Check.due("one up", told(x, deep), 105);
        x.serve(0, 0, false);
        Check.due("still", told(x, deep), 105);
    }

    /** Terms 1: "A CUT of a ZONE is a NAME in it, not its APEX, that owns a RECORD of TYPE 2 there." */
    private static void apexIsNoCut() {
        NameSeeker x = new NameSeeker();
        Check.name(x, "c.b.a");
        x.zone(1, 5);
        x.zone(0, 5);
        x.server(1);
        x.serve(0, 0, true);
        x.record(0, 1, 2, 1, 9);
        x.record(0, 3, 1, 77, 9);
        x.record(1, 2, 2, 1, 9);
        Check.due("neither its apex nor a name in another zone", told(x, 3), 77);
        x.record(0, 2, 1, 1, 9);
        Check.due("nor one that owns others", told(x, 3), 77);
        x.record(0, 2, 2, 1, 9);
        x.say(0, 3, 1);
        Check.due("one below it", x.parse(), 1);
        Check.due("is told", x.parsed(0, 1), 2);
        x.say(0, 2, 1);
        x.parse();
        Check.due("of the cut itself, too", x.parsed(0, 2), 2);
        x.drop(0, 2, 2);
        Check.due("a cut no more", told(x, 3), 77);
    }

    /** Terms 2: "If the NAME is in a CUT of it, of several the highest". */
    private static void highestCut() {
        NameSeeker x = Scene.rooted();
        Check.name(x, "f.e.d.c.b.a");
        Check.name(x, "y.a");
        x.record(0, 7, 1, 5, 9);
        for (int cut = 6; cut >= 1; cut--) {
            x.record(0, cut, 2, 0, 9);
            x.say(0, 6, 2);
            Check.due("one host", x.parse(), 1);
            Check.due("of cut " + cut, x.parsed(0, 1), cut);
            Check.due("in the second section", x.parsed(0, 0), 1);
            if (cut > 1) {
                Check.due("a name beside them is in none", told(x, 7), 5);
            }
        }
        x.say(0, 0, 2);
        Check.due("the root is in none", x.parse(), 1);
        Check.due("so the soa", x.parsed(0, 2), 6);
    }

    /** Terms 2: "those of TYPE 1 of this ZONE whose OWNERS are the DATA of these (each once, by the ZONE's order)". */
    private static void addressesEachOnce() {
        NameSeeker x = Scene.rooted();
        Check.name(x, "a");
        Check.name(x, "m");
        Check.name(x, "n");
        Check.name(x, "o");
        x.zone(3, 5);
        x.serve(0, 1, true);
        x.record(0, 3, 1, 31, 9);
        x.record(0, 1, 2, 2, 9);
        x.record(0, 2, 1, 21, 9);
        x.record(0, 1, 2, 3, 9);
        x.record(0, 1, 2, 2, 9);
        x.record(0, 3, 1, 32, 9);
        x.record(0, 2, 16, 99, 9);
        x.record(0, 4, 1, 41, 9);
        x.record(1, 3, 1, 33, 9);
        x.record(0, 2, 1, 21, 9);
        x.say(0, 1, 1);
        int[] data = {2, 3, 2, 31, 21, 32, 21};
        Check.due("hosts and addresses", x.parse(), data.length);
        for (int k = 0; k < data.length; k++) {
            Check.due("data " + k, x.parsed(k, 3), data[k]);
            Check.due("section " + k, x.parsed(k, 0), k < 3 ? 1 : 2);
        }
        x.drop(0, 2, 1);
        x.drop(0, 3, 1);
        x.say(0, 1, 1);
        Check.due("hosts without addresses", x.parse(), 3);
    }

    /** Terms 2: "if there are RECORDS of TYPE 5 of the NAME, and TYPE is not 5: the first of them". */
    private static void typeFive() {
        NameSeeker x = Scene.rooted();
        Check.name(x, "a");
        x.record(0, 1, 16, 9, 9);
        x.record(0, 1, 5, 1, 9);
        x.record(0, 1, 5, 0, 9);
        for (int type : new int[] {1, 2, 16, 6, 0, 65541, -1}) {
            x.say(0, 1, type);
            Check.due("one for type " + type, x.parse(), 1);
            Check.due("it is an alias", x.parsed(0, 2), 5);
            Check.due("the first", x.parsed(0, 3), 1);
            Check.due("in the first section", x.parsed(0, 0), 0);
        }
        x.say(0, 1, 5);
        Check.due("both where they are asked for", x.parse(), 2);
        x.drop(0, 1, 5);
        x.say(0, 1, 5);
        Check.due("none: the soa", x.parse(), 1);
        Check.due("it is", x.parsed(0, 2), 6);
    }

    /** Terms 2: "else all of that TYPE of the NAME, if there are some .. (RECORDS by their order.)" */
    private static void allOfThatType() {
        NameSeeker x = Scene.rooted();
        Check.name(x, "b.a");
        for (int k = 0; k < 30; k++) {
            x.record(0, k % 3 == 0 ? 1 : 2, k % 2 == 0 ? 1 : 16, 30 - k, 1 + k);
        }
        x.say(0, 1, 16);
        Check.due("five", x.parse(), 5);
        for (int k = 0; k < 5; k++) {
            Check.due("data " + k, x.parsed(k, 3), 27 - 6 * k);
            Check.due("life " + k, x.parsed(k, 4), 4 + 6 * k);
        }
    }

    /** Terms 2: "CODE 3 if no OWNER of the ZONE is IN the NAME and it is not the APEX, else CODE 0". */
    private static void codeThree() {
        NameSeeker x = new NameSeeker();
        Check.name(x, "d.c.b.a");
        Check.name(x, "x.b.a");
        x.zone(1, 9);
        x.zone(0, 9);
        x.server(1);
        x.serve(0, 0, true);
        x.hint(1);
        code("the apex of an empty zone", x, 1, 1);
        code("a name in an empty zone", x, 2, 2);
        x.record(1, 4, 1, 7, 9);
        code("an owner of another zone", x, 3, 2);
        x.record(0, 3, 1, 7, 9);
        code("above an owner", x, 2, 1);
        code("an owner of another type", x, 3, 1);
        code("below an owner", x, 4, 2);
        code("beside an owner", x, 5, 2);
        x.drop(0, 3, 1);
        code("an owner no more", x, 2, 2);
        code("the apex", x, 1, 1);
        NameSeeker y = Scene.rooted();
        Check.name(y, "b.a");
        y.record(0, 2, 1, 7, 9);
        y.tick(50);
        code("above the only owner", y, 1, 1);
    }

    /** What a seeking makes of what is said: 1 EMPTY, 2 ABSENT. */
    private static void code(String what, NameSeeker x, int name, int want) {
        x.tick(9);
        x.ask(name, 16);
        x.step();
        Check.due(what, x.result(0), want);
        Check.due(what + ": of name and type", x.cached(name, 16), want == 1 ? 0 : -1);
        Check.due(what + ": of the name", x.cached(name, 0), want == 2 ? 0 : -1);
    }

    /** Terms 2: "the question: NAME, TYPE, 1 in two bytes each"; a TYPE that does not fit into two. */
    private static void typeOfTwoBytes() {
        for (int type : new int[] {1 + 65536, 1 - 65536, Integer.MIN_VALUE + 1}) {
            NameSeeker x = Scene.rooted();
            x.record(0, 0, 1, 7, 9);
            x.ask(0, 1);
            x.say(0, 0, type);
            x.turn(1, 1);
            Check.due("its lowest bits are told", x.forge(), 0);
            Check.due("but there are none of that type", x.result(0), 1);
        }
    }

    /** 61 addresses of 16 bytes and a question of so many letters: 993 bytes and these. */
    private static NameSeeker wide(int letters) {
        NameSeeker x = Scene.rooted();
        Check.name(x, "abcdefghij".substring(0, letters));
        for (int k = 0; k < 61; k++) {
            x.record(0, 1, 1, k, 9);
        }
        x.feed(0, 0, 0, 0, 0);
        return x;
    }

    /** Terms 2: "(Where it would have more than 1000 bytes nothing is said.)" */
    private static void thousandBytes() {
        for (int letters = 4; letters <= 9; letters++) {
            int size = 994 + letters;
            boolean said = size <= 1000;
            NameSeeker x = wide(letters);
            Check.due(size + " bytes", x.say(0, 1, 1), said ? size : 0);
            Check.due(size + " bytes on the tape", x.count(8), said ? size : 0);
            Check.due(size + " bytes are read", x.parse(), said ? 61 : -1);
            x.ask(1, 1);
            x.step();
            Check.due(size + " bytes as a reply", x.result(0), said ? 0 : 3);
            Check.due(size + " bytes: data", x.result(1), said ? 10 : 0);
        }
        NameSeeker y = wide(10);
        for (int k = 0; k < 89; k++) {
            y.record(0, 1, 1, k, 9);
        }
        Check.due("as long as it can be", y.say(0, 1, 1), 0);
        Check.due("another type can be said", y.say(0, 1, 16), 12 + 12 + 4 + 11 + 22);
    }

    /**
     * What a seeking makes of an SOA behind the ID and the flags that were said, with bits turned into
     * the flags: 1 EMPTY, 2 ABSENT, 3 FAILED; 4 if the ID is not the one that is due.
     */
    private static int withSoa(NameSeeker x, int name, int turned) {
        x.ask(name, 1);
        x.say(0, name, 1);
        x.end(4);
        x.turn(1, x.query(1));
        if (turned > 0) {
            x.turn(2, turned);
        }
        int[] all = new Check.Message(0, 0, 0, 1, 0).question(Check.textOf(x, name), 1).soa(".", 9, 9).all();
        for (int i = 4; i < all.length; i += 20) {
            x.feed(0, 0, 0, 0, 0);
        }
        for (int i = 4; i < all.length; i++) {
            x.turn(i, all[i]);
        }
        x.end(all.length);
        x.forge();
        return x.result(0);
    }

    /** Promise 13: "a MESSAGE of ID 0"; terms 2: "flags: two bytes: 32768, and 1024 with AA, and CODE". */
    private static void idAndFlags() {
        NameSeeker cut = Scene.rooted();
        Check.name(cut, "a");
        cut.record(0, 1, 2, 0, 9);
        Check.due("a referral: no aa", withSoa(cut, 1, 0), 3);
        NameSeeker again = Scene.rooted();
        Check.name(again, "a");
        again.record(0, 1, 2, 0, 9);
        Check.due("a referral: code 0", withSoa(again, 1, 0x84), 1);
        NameSeeker there = Scene.rooted();
        there.record(0, 0, 1, 5, 9);
        Check.due("an answer: aa and code 0", withSoa(there, 0, 0), 1);
        Check.due("an soa of the apex: aa and code 0", withSoa(Scene.rooted(), 0, 0), 1);
        NameSeeker absent = Scene.rooted();
        Check.name(absent, "a");
        Check.due("absent: code 3", withSoa(absent, 1, 0), 2);
        NameSeeker other = Scene.rooted();
        other.ask(0, 1);
        other.say(0, 0, 1);
        Check.due("of id 0", other.forge(), -1);
        other.say(0, 0, 1);
        other.turn(1, 1);
        Check.due("its lower byte alone is turned", other.forge(), 0);
    }

    private static void bytes(String what, Supplier<NameSeeker> said, Check.Message want) {
        int[] all = want.all();
        Check.due(what + ": how many", said.get().count(8), all.length);
        int[] got = Scene.bytesFrom28(said);
        int[] behind = Arrays.copyOfRange(all, 28, all.length);
        Check.due(what + ": " + Arrays.toString(got) + " for " + Arrays.toString(behind),
            Arrays.equals(got, behind), true);
    }

    /** Terms 2: "RECORDS: OWNER, TYPE, 1, LIFE in four bytes, length in two, DATA"; of each TYPE. */
    private static void bytesOfAnAnswer() {
        for (int type : Scene.TYPES) {
            boolean named = type == 2 || type == 5;
            Supplier<NameSeeker> said = () -> {
                NameSeeker x = new NameSeeker();
                Check.name(x, "abcdefghij");
                x.zone(1, 5);
                x.server(1);
                x.serve(0, 0, true);
                x.record(0, 1, type, named ? 0 : 0x81020384, 100000);
                x.record(0, 1, type, named ? 1 : -1, 1);
                x.say(0, 1, type);
                return x;
            };
            Check.Message want = new Check.Message(0, 0x8400, 2, 0, 0).question("abcdefghij", type);
            for (int k = 0; k < 2; k++) {
                want.raw(LEAD, 12).two(type).two(1).four(k == 0 ? 100000 : 1);
                if (named) {
                    want.two(k == 0 ? 1 : 2).raw(k == 0 ? new int[] {0} : new int[] {LEAD, 12});
                } else {
                    want.two(type == 1 ? 4 : 5).raw(type == 1 ? new int[0] : new int[] {4});
                    want.four(k == 0 ? 0x81020384 : -1);
                }
            }
            bytes("answer of type " + type, said, want);
        }
    }

    /** Terms 2: "a REFERRAL: in the second section .., in the third one .."; byte by byte. */
    private static void bytesOfAReferral() {
        Supplier<NameSeeker> said = () -> {
            NameSeeker x = Scene.rooted();
            Check.name(x, "long-label.cut");
            Check.name(x, "ns.cut");
            Check.name(x, "ns.else");
            x.record(0, 4, 1, 9, 3);
            x.record(0, 1, 2, 5, 1);
            x.record(0, 1, 2, 3, 2);
            x.record(0, 3, 1, 8, 4);
            x.record(0, 5, 1, 7, 5);
            x.say(0, 2, 1);
            return x;
        };
        // The cut is at 23; ns at 44 with else at 47; the other ns at 64.
        Check.Message want = new Check.Message(0, 0x8000, 0, 2, 2).question("long-label.cut", 1)
            .raw(LEAD, 23).two(2).two(1).four(1).two(9).raw(2, 'n', 's', 4, 'e', 'l', 's', 'e', 0)
            .raw(LEAD, 23).two(2).two(1).four(2).two(5).raw(2, 'n', 's', LEAD, 23)
            .raw(LEAD, 65).two(1).two(1).four(4).two(4).four(8)
            .raw(LEAD, 44).two(1).two(1).four(5).two(4).four(7);
        bytes("referral", said, want);
    }

    /** Terms 2: "SOA: OWNER the APEX, TYPE 6, LIFE the MINIMUM, DATA two roots, .. 1, 0, 0, 0, MINIMUM". */
    private static void bytesOfAnSoa() {
        for (int minimum : new int[] {1, 100000}) {
            Supplier<NameSeeker> said = () -> {
                NameSeeker x = new NameSeeker();
                Check.name(x, "abcdefghij.k");
                x.zone(minimum == 1 ? 0 : 1, minimum);
                x.server(1);
                x.serve(0, 0, true);
                x.say(0, 2, 16);
                return x;
            };
            Check.Message want = new Check.Message(0, 0x8403, 0, 1, 0).question("abcdefghij.k", 16);
            want.raw(minimum == 1 ? new int[] {0} : new int[] {LEAD, 23});
            want.two(6).two(1).four(minimum).two(22).raw(0, 0).four(1).four(0).four(0).four(0).four(minimum);
            bytes("soa of minimum " + minimum, said, want);
        }
    }

    /** Terms 2: "(also as the end of another one), two bytes: 49152 and the place at which that was written first". */
    private static void namesWrittenFirst() {
        String[] names = {"abcdefghij", "f.e.d.c.b.a", "x.d.c.b.a", "a", "f.e.d.c.b.a", "e.d.c.b.a", "b", "."};
        Supplier<NameSeeker> said = () -> {
            NameSeeker x = Scene.rooted();
            for (int k = 0; k < names.length; k++) {
                int n = Check.name(x, names[k]);
                if (k > 0) {
                    x.record(0, 1, 5, n, 1);
                }
            }
            x.say(0, 1, 5);
            return x;
        };
        // The question ends at 28; f is at 40, e at 42, d at 44, c at 46, b at 48, a at 50.
        int[][] data = {{1, 'f', 1, 'e', 1, 'd', 1, 'c', 1, 'b', 1, 'a', 0}, {1, 'x', LEAD, 44}, {LEAD, 50},
            {LEAD, 40}, {LEAD, 42}, {1, 'b', 0}, {0}};
        Check.Message want = new Check.Message(0, 0x8400, data.length, 0, 0).question("abcdefghij", 5);
        for (int[] d : data) {
            want.raw(LEAD, 12).two(5).two(1).four(1).two(d.length).raw(d);
        }
        bytes("names told once", said, want);
    }
}
