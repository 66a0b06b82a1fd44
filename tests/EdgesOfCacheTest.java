/** Terms 4, of the CACHE, HINTS and time, and promises 16, 17, 25, 26: a method for each sentence of a boundary. */
public final class EdgesOfCacheTest {
    private static final int AA = Scene.AA;
    private static final long MOST = 0xffffffffL;

    public static void main(String[] args) {
        atMostTenData();
        noTwoAlike();
        leastLife();
        setsHoldWhileNowIsLess();
        nothingsHoldWhileNowIsLess();
        longestLives();
        lifeOfNone();
        oneHundred();
        endsFirst();
        putInFirst();
        putInAgain();
        sameGoes();
        sameOfAnotherKind();
        overTakesRoom();
        newOneThatEndsFirst();
        referralIntoFullCache();
        hintsAreFour();
        hintsOfAnyAddress();
        ticks();
        cachedNoSuchName();
        cachedOfTypes();
        counts();
        countOfOthers();
        countOfQueries();
        Check.finish();
    }

    /** Terms 4: "at most 10 DATA, in the order told"; "DATA of the first ten that are unlike". */
    private static void atMostTenData() {
        for (int n : new int[] {1, 2, 9, 10, 11, 12, 30}) {
            NameSeeker x = Scene.asking(16);
            Check.Message message = Scene.reply(x, AA, n, 0, 0);
            for (int k = 0; k < n; k++) {
                message.number("w.b.a", 500 - k, 9);
            }
            Check.due(n + " numbers", Scene.forge(x, message), 0);
            int kept = Math.min(n, 10);
            Check.due(n + " numbers: found", x.result(1), kept);
            Check.due(n + " numbers: kept", x.cached(3, 16), kept);
            for (int k = 0; k < 12; k++) {
                Check.due(n + " numbers: data " + k, x.data(k), k < kept ? 500 - k : 0);
            }
        }
    }

    /** Terms 4: "no two alike"; those that are alike take no room from the ten. */
    private static void noTwoAlike() {
        NameSeeker x = Scene.asking(1);
        Check.Message message = Scene.reply(x, AA, 24, 0, 0);
        for (int k = 0; k < 24; k++) {
            message.address("w.b.a", k / 2, 9);
        }
        Scene.forge(x, message);
        Check.due("ten of twelve", x.cached(3, 1), 10);
        for (int k = 0; k < 10; k++) {
            Check.due("data " + k, x.data(k), k);
        }
        NameSeeker y = Scene.asking(2);
        Scene.forge(y, Scene.reply(y, AA, 3, 0, 0).named("w.b.a", 2, "m", 9).named("w.b.a", 2, "n", 9)
            .named("w.b.a", 2, "m", 9));
        Check.due("names, too", y.cached(3, 2), 2);
    }

    /** Terms 4: "The LIFE of a SET is the least of its RECORDS". */
    private static void leastLife() {
        long[][] lives = {{5, 9, 7}, {9, 5, 7}, {9, 7, 5}, {MOST, 5, MOST}, {0x80000000L, 6, 5}};
        for (long[] three : lives) {
            NameSeeker x = Scene.asking(1);
            Scene.forge(x, Scene.reply(x, AA, 4, 0, 0).address("w.b.a", 1, three[0]).address("w.b.a", 2, three[1])
                .address("b.a", 3, 1).address("w.b.a", 2, three[2]));
            x.tick(4);
            Check.due("before the least", x.cached(3, 1), 2);
            x.tick(1);
            Check.due("at the least", x.cached(3, 1), -1);
        }
    }

    /** Terms 4: "They hold as long as NOW is less", of SETS. */
    private static void setsHoldWhileNowIsLess() {
        for (int life : new int[] {1, 2, 100000}) {
            NameSeeker x = Scene.asking(1);
            x.tick(77);
            Scene.forge(x, Scene.reply(x, AA, 1, 0, 0).address("w.b.a", 5, life));
            x.tick(life - 1);
            Check.due("one before its end", x.cached(3, 1), 1);
            Check.due("it is found", x.ask(3, 1), 0);
            x.tick(1);
            Check.due("at its end", x.cached(3, 1), -1);
            Check.due("it is sought", x.ask(3, 1), 1);
            Check.due("it is there, but does not hold", x.count(6), 1);
        }
    }

    /** Terms 4: "They hold as long as NOW is less", of NOTHINGS; "the lesser one" of two numbers. */
    private static void nothingsHoldWhileNowIsLess() {
        long[][] both = {{1, 1}, {5, 9}, {9, 5}, {5, 5}, {5, MOST}, {MOST, 5}, {0x80000000L, 3}, {3, 0x80000000L}};
        for (long[] pair : both) {
            for (int code : new int[] {0, 3}) {
                int type = code == 3 ? 0 : 1;
                NameSeeker x = Scene.asking(1);
                x.tick(13);
                Scene.forge(x, Scene.reply(x, AA + code, 0, 1, 0).soa("b.a", pair[0], pair[1]));
                int lesser = (int) Math.min(pair[0], pair[1]);
                x.tick(lesser - 1);
                Check.due("one before its end", x.cached(3, type), 0);
                Check.due("it is told", x.ask(3, 1), 0);
                Check.due("as such", x.result(0), code == 3 ? 2 : 1);
                x.tick(1);
                Check.due("at its end", x.cached(3, type), -1);
                Check.due("it is sought", x.ask(3, 1), 1);
            }
        }
    }

    /** Terms 3: "Numbers of LIFE have no sign": they are far beyond what NOW can come to. */
    private static void longestLives() {
        for (long life : new long[] {0x7fffffffL, 0x80000000L, MOST}) {
            NameSeeker x = Scene.asking(1);
            x.tick(100000);
            Scene.forge(x, Scene.reply(x, AA, 1, 0, 0).address("w.b.a", 5, life));
            x.ask(3, 16);
            Scene.forge(x, Scene.reply(x, AA, 0, 1, 0).soa(".", life, life));
            for (int k = 0; k < 400; k++) {
                x.tick(100000);
            }
            Check.due("a set of " + life, x.cached(3, 1), 1);
            Check.due("a nothing of " + life, x.cached(3, 16), 0);
            Check.due("now", x.count(5), 40100000);
        }
    }

    /** Terms 4: a LIFE of 0, with which NOW is never less: it is put in, and does not hold. */
    private static void lifeOfNone() {
        NameSeeker x = Scene.asking(1);
        Check.due("a set", Scene.forge(x, Scene.reply(x, AA, 1, 0, 0).address("w.b.a", 5, 0)), 0);
        Check.due("is not found", x.result(0), 3);
        Check.due("does not hold", x.cached(3, 1), -1);
        Check.due("is there", x.count(6), 1);
        for (long[] pair : new long[][] {{0, 9}, {9, 0}, {0, 0}}) {
            x.ask(3, 16);
            Scene.forge(x, Scene.reply(x, 3, 0, 1, 0).soa(".", pair[0], pair[1]));
            Check.due("a nothing is not told", x.result(0), 3);
            Check.due("does not hold", x.cached(3, 0), -1);
            Check.due("is there", x.count(6), 2);
        }
    }

    /** A root zone without RECORDS: a NOTHING of each of the NAMES from 1 on is put in, for 50 from NOW on. */
    private static NameSeeker crowded(int names) {
        NameSeeker x = Scene.rooted();
        Scene.fillNames(x, 130);
        for (int n = 1; n <= names; n++) {
            miss(x, n);
        }
        return x;
    }

    private static void miss(NameSeeker x, int name) {
        x.ask(name, 1);
        x.step();
        Check.due("a nothing of " + name, x.cached(name, 0), 0);
    }

    /** Terms 4: "At most 100 of all". */
    private static void oneHundred() {
        NameSeeker x = crowded(99);
        Check.due("99", x.count(6), 99);
        miss(x, 100);
        Check.due("100", x.count(6), 100);
        Check.due("all of them", x.cached(1, 0), 0);
        miss(x, 101);
        Check.due("still 100", x.count(6), 100);
        Check.due("one went", x.cached(1, 0), -1);
        for (int n = 2; n <= 101; n++) {
            Check.due("the others stayed: " + n, x.cached(n, 0), 0);
        }
    }

    /** Terms 4: "if there are 100, that which ends first". */
    private static void endsFirst() {
        NameSeeker x = crowded(60);
        x.ask(61, 1);
        Scene.forge(x, Scene.reply(x, 3, 0, 1, 0).soa(".", 20, 20));
        x.tick(1);
        for (int n = 62; n <= 100; n++) {
            miss(x, n);
        }
        Check.due("100", x.count(6), 100);
        miss(x, 101);
        Check.due("the one that ends at 20 went", x.cached(61, 0), -1);
        Check.due("the one put in first stayed", x.cached(1, 0), 0);
        miss(x, 102);
        Check.due("then the first of those that end at 50", x.cached(1, 0), -1);
        Check.due("not one that ends at 51", x.cached(62, 0), 0);
    }

    /** Terms 4: "(of several the one that was put in first)". */
    private static void putInFirst() {
        NameSeeker x = crowded(100);
        for (int n = 101; n <= 110; n++) {
            miss(x, n);
            Check.due("gone: " + (n - 100), x.cached(n - 100, 0), -1);
            Check.due("next: " + (n - 99), x.cached(n - 99, 0), 0);
            Check.due("the one before stayed", x.cached(n - 1, 0), 0);
        }
        Check.due("100", x.count(6), 100);
    }

    /** Terms 4: one that was put in again was not put in first any more, though it ends with the others. */
    private static void putInAgain() {
        NameSeeker x = Scene.rooted();
        Scene.fillNames(x, 130);
        int m = Check.name(x, "m");
        refer(x, "u.zone", 70, 50);
        for (int n = 1; n <= 97; n++) {
            miss(x, n);
        }
        refer(x, "v.zone", 70, 50);
        Check.due("100: of two zones, of m, and the others", x.count(6), 100);
        x.tick(1);
        miss(x, 99);
        Check.due("the first of the others went", x.cached(1, 0), -1);
        Check.due("m was put in again", x.cached(m, 1), 1);
    }

    /** Asks for a NAME and is told that m, at 9, tells of it. */
    private static void refer(NameSeeker x, String name, int hostLife, int addressLife) {
        x.ask(Check.name(x, name), 1);
        Scene.forge(x, Scene.reply(x, 0, 0, 1, 1).named(name, 2, "m", hostLife).address("m", 9, addressLife));
        x.lose();
        Check.due("failed", x.result(0), 3);
    }

    /** Terms 4: "one of the same NAME and TYPE goes where one is put in". */
    private static void sameGoes() {
        NameSeeker x = crowded(100);
        x.tick(50);
        Check.due("all are over", x.cached(50, 0), -1);
        miss(x, 50);
        Check.due("100", x.count(6), 100);
        miss(x, 101);
        miss(x, 102);
        Check.due("100 again", x.count(6), 100);
        Check.due("it is not the first that ends now", x.cached(50, 0), 0);
        NameSeeker y = Scene.asking(1);
        Scene.forge(y, Scene.reply(y, AA, 2, 0, 0).address("w.b.a", 5, 3).address("w.b.a", 6, 3));
        y.tick(3);
        y.ask(3, 1);
        Scene.forge(y, Scene.reply(y, AA, 1, 0, 0).address("w.b.a", 7, 3));
        Check.due("the set before is gone", y.cached(3, 1), 1);
        Check.due("the new one", y.data(0), 7);
        Check.due("one in all", y.count(6), 1);
    }

    /** Terms 4: a SET and a NOTHING of a NAME and TYPE are of the same; those of others, and of the NAME, are not. */
    private static void sameOfAnotherKind() {
        NameSeeker x = Scene.asking(1);
        Scene.forge(x, Scene.reply(x, AA, 0, 1, 0).soa(".", 2, 2));
        x.ask(3, 2);
        Scene.forge(x, Scene.reply(x, AA, 0, 1, 0).soa(".", 9, 9));
        x.ask(3, 16);
        Scene.forge(x, Scene.reply(x, AA, 1, 0, 0).number("w.b.a", 1, 9));
        x.ask(3, 5);
        Scene.forge(x, Scene.reply(x, 3, 0, 1, 0).soa(".", 9, 9));
        Check.due("four kinds", x.count(6), 4);
        int[][] kinds = {{0, 0}, {1, 0}, {2, 0}, {5, -1}, {16, 1}};
        for (int[] kind : kinds) {
            Check.due("of type " + kind[0], x.cached(3, kind[0]), kind[1]);
        }
        x.tick(9);
        x.ask(3, 1);
        Scene.forge(x, Scene.reply(x, AA, 1, 0, 0).address("w.b.a", 1, 9));
        x.ask(3, 16);
        Scene.forge(x, Scene.reply(x, AA, 0, 1, 0).soa(".", 9, 9));
        Check.due("still four", x.count(6), 4);
        Check.due("a set for a nothing", x.cached(3, 1), 1);
        Check.due("a nothing for a set", x.cached(3, 16), 0);
    }

    /** Terms 4 and promise 26: those that do not hold any more take room, and go first as they ended first. */
    private static void overTakesRoom() {
        NameSeeker x = crowded(99);
        x.tick(50);
        miss(x, 100);
        Check.due("100 with those that are over", x.count(6), 100);
        miss(x, 101);
        miss(x, 102);
        Check.due("100", x.count(6), 100);
        Check.due("the one that holds stayed", x.cached(100, 0), 0);
    }

    /** Terms 4: what is put in does not go itself, though it may be the first to end; but at the next one. */
    private static void newOneThatEndsFirst() {
        NameSeeker x = crowded(100);
        x.ask(101, 1);
        Scene.forge(x, Scene.reply(x, AA, 1, 0, 0).address(Check.textOf(x, 101), 7, 1));
        Check.due("it is found", x.data(0), 7);
        Check.due("the first went for it", x.cached(1, 0), -1);
        Check.due("the second stayed", x.cached(2, 0), 0);
        miss(x, 102);
        Check.due("now it went", x.cached(101, 1), -1);
        Check.due("the second stayed again", x.cached(2, 0), 0);
    }

    /** Terms 4: a SET of TYPE 2 may go for the addresses of its own DATA, which are put in all the same. */
    private static void referralIntoFullCache() {
        NameSeeker x = crowded(100);
        int top = x.ask(Check.name(x, "host.top"), 1);
        Check.due("a query", top, 1);
        Scene.forge(x, Scene.reply(x, 0, 0, 2, 2).named("top", 2, "m", 1).named("top", 2, "n", 1)
            .address("m", 8, 60).address("n", 9, 60));
        Check.due("its first", x.cached(Check.name(x, "m"), 1), 1);
        Check.due("its second", x.cached(Check.name(x, "n"), 1), 1);
        Check.due("it went itself", x.cached(Check.name(x, "top"), 2), -1);
        Check.due("one for it", x.cached(1, 0), -1);
        Check.due("one for the second", x.cached(2, 0), -1);
        Check.due("no third", x.cached(3, 0), 0);
        Check.due("100", x.count(6), 100);
        Check.due("so nobody tells of it, and the only hint was tried", x.result(0), 3);
    }

    /** Terms 4: "HINTS: at most 4 addresses"; promise 16: "NONE, and it does not come, if there are 4". */
    private static void hintsAreFour() {
        NameSeeker x = new NameSeeker();
        for (int k = 1; k <= 4; k++) {
            Check.due("hint " + k, x.hint(10 * k), k);
            Check.due("count " + k, x.count(4), k);
        }
        Check.due("a fifth", x.hint(50), -1);
        Check.due("a sixth", x.hint(10), -1);
        Check.due("four", x.count(4), 4);
        x.ask(0, 1);
        for (int k = 1; k <= 4; k++) {
            Check.due("in their order", x.query(0), 10 * k);
            Check.due("and no other", x.lose(), k < 4 ? 1 : 0);
        }
    }

    /** Promise 16: "An address comes behind the HINTS", any number, also one that is there. */
    private static void hintsOfAnyAddress() {
        NameSeeker x = new NameSeeker();
        int[] any = {0, Integer.MIN_VALUE, 0, Integer.MAX_VALUE};
        for (int k = 0; k < 4; k++) {
            Check.due("hint " + any[k], x.hint(any[k]), k + 1);
        }
        x.ask(0, 1);
        int[] tried = {0, Integer.MIN_VALUE, Integer.MAX_VALUE};
        for (int address : tried) {
            Check.due("at " + address, x.query(0), address);
            x.lose();
        }
        Check.due("the same is not tried twice", x.result(4), 3);
    }

    /** Promise 17: "IllegalArgumentException: not 0 to 100000." */
    private static void ticks() {
        NameSeeker x = new NameSeeker();
        for (int n : new int[] {Integer.MIN_VALUE, -100000, -1, 100001, Integer.MAX_VALUE}) {
            Check.thrown("tick(" + n + ")", IllegalArgumentException.class, () -> x.tick(n));
            Check.due("now is as it was", x.count(5), 0);
        }
        Check.due("tick(0)", x.tick(0), 0);
        Check.due("tick(1)", x.tick(1), 1);
        Check.due("tick(100000)", x.tick(100000), 100001);
        Check.due("tick(0) again", x.tick(0), 100001);
        NameSeeker y = new NameSeeker();
        for (int k = 1; k <= 500; k++) {
            Check.due("as far as 500 calls go", y.tick(100000), 100000 * k);
        }
    }

    /** Promise 25, and "IndexOutOfBoundsException: there is no such NAME". */
    private static void cachedNoSuchName() {
        NameSeeker x = new NameSeeker();
        for (int name : new int[] {Integer.MIN_VALUE, -1, 1, 300, Integer.MAX_VALUE}) {
            Check.thrown("cached(" + name + ", 1)", IndexOutOfBoundsException.class, () -> x.cached(name, 1));
            Check.thrown("cached(" + name + ", 0)", IndexOutOfBoundsException.class, () -> x.cached(name, 0));
            Check.thrown("cached(" + name + ", -1)", IndexOutOfBoundsException.class, () -> x.cached(name, -1));
        }
    }

    /** Promise 25: "how many DATA; 0 a NOTHING of both; NONE nothing. (Of TYPE 0: 0 a NOTHING of the NAME alone.)" */
    private static void cachedOfTypes() {
        NameSeeker x = Scene.asking(1);
        Scene.forge(x, Scene.reply(x, AA, 1, 0, 0).address("w.b.a", 5, 9));
        int[] odd = {Integer.MIN_VALUE, -1, 0, 2, 3, 5, 6, 15, 16, 17, 257, 65537, Integer.MAX_VALUE};
        for (int type : odd) {
            Check.due("a set of type 1, asked for " + type, x.cached(3, type), -1);
        }
        Check.due("of type 1", x.cached(3, 1), 1);
        Check.due("of the name above", x.cached(2, 1), -1);
        NameSeeker y = Scene.asking(1);
        Scene.forge(y, Scene.reply(y, AA, 0, 1, 0).soa(".", 9, 9));
        for (int type : odd) {
            Check.due("a nothing of type 1, asked for " + type, y.cached(3, type), -1);
        }
        Check.due("of both", y.cached(3, 1), 0);
        NameSeeker z = Scene.asking(1);
        Scene.forge(z, Scene.reply(z, 3, 0, 1, 0).soa(".", 9, 9));
        for (int type : odd) {
            Check.due("a nothing of the name, asked for " + type, z.cached(3, type), type == 0 ? 0 : -1);
        }
        Check.due("not of type 1", z.cached(3, 1), -1);
    }

    /** Promise 26: each number by what makes it go on by one. */
    private static void counts() {
        NameSeeker x = Scene.tree();
        int[] want = {4, 2, 4, 2, 1, 0, 0, 0, 0};
        for (int what = 0; what <= 8; what++) {
            Check.due("count(" + what + ")", x.count(what), want[what]);
        }
        Check.name(x, "q");
        x.zone(4, 9);
        x.record(2, 4, 1, 1, 1);
        x.server(99);
        x.hint(99);
        x.tick(5);
        x.ask(3, 1);
        x.step();
        x.feed(0, 0, 0, 0, 0);
        int[] then = {5, 3, 5, 3, 2, 5, 2, 2, 20};
        for (int what = 0; what <= 8; what++) {
            Check.due("then count(" + what + ")", x.count(what), then[what]);
        }
        x.tick(1000);
        Check.due("also those that do not hold any more", x.count(6), 2);
    }

    /** Promise 26: "NONE for another what." */
    private static void countOfOthers() {
        NameSeeker x = Scene.tree();
        for (int what : new int[] {Integer.MIN_VALUE, -2, -1, 9, 10, Integer.MAX_VALUE}) {
            Check.due("count(" + what + ")", x.count(what), -1);
        }
    }

    /** Promise 26: "7 QUERIES that ever went out", of all SEEKINGS; none that found it in the CACHE. */
    private static void countOfQueries() {
        NameSeeker x = Scene.tree();
        x.ask(3, 1);
        x.step();
        x.step();
        Check.due("two", x.count(7), 2);
        x.ask(3, 1);
        Check.due("none more", x.count(7), 2);
        x.ask(3, 16);
        Check.due("one more", x.count(7), 3);
        x.lose();
        Check.due("also if it was lost", x.count(7), 3);
    }
}
