import java.util.NoSuchElementException;

/** Promises 16 to 26: HINTS, time, SEEKINGS, the CACHE and counts. */
public final class SeekTest {
    private static final int REPLY = Scene.REPLY;
    private static final int AA = Scene.AA;

    public static void main(String[] args) {
        hints();
        ticks();
        askThrows();
        noHints();
        hintsInTurn();
        walkDown();
        serverThatIsNotThere();
        lost();
        unknownHost();
        hostsInCircle();
        fourFrames();
        addressesInTurn();
        placeChangesWhatWasTried();
        chains();
        chainOfAnother();
        nothings();
        rootSet();
        fortyQueries();
        notAReply();
        repliesTakeTheFirstThatFits();
        badReferrals();
        referralTakes();
        sets();
        lives();
        cacheIsFull();
        queries();
        results();
        counts();
        Check.finish();
    }

    private static void hints() {
        NameSeeker x = new NameSeeker();
        Check.due("first", x.hint(7), 1);
        Check.due("the same", x.hint(7), 2);
        Check.due("third", x.hint(-1), 3);
        Check.due("fourth", x.hint(9), 4);
        Check.due("fifth", x.hint(10), -1);
        Check.due("count", x.count(4), 4);
        x.ask(0, 1);
        Check.due("the first goes", x.query(0), 7);
        x.lose();
        Check.due("7 is not tried again", x.query(0), -1);
        x.lose();
        Check.due("the last goes", x.query(0), 9);
        Check.due("the fifth did not come", x.lose(), 0);
    }

    private static void ticks() {
        NameSeeker x = new NameSeeker();
        Check.due("by nothing", x.tick(0), 0);
        Check.due("by most", x.tick(100000), 100000);
        Check.due("by one", x.tick(1), 100001);
        Check.thrown("back", IllegalArgumentException.class, () -> x.tick(-1));
        Check.thrown("too far", IllegalArgumentException.class, () -> x.tick(100001));
        Check.due("count", x.count(5), 100001);
    }

    private static void askThrows() {
        NameSeeker x = new NameSeeker();
        Check.name(x, "a");
        for (int type : new int[] {0, 3, 6, 17, -1, 65537}) {
            Check.thrown("type " + type, IllegalArgumentException.class, () -> x.ask(1, type));
        }
        Check.thrown("no name", IndexOutOfBoundsException.class, () -> x.ask(2, 6));
        Check.thrown("no name below 0", IndexOutOfBoundsException.class, () -> x.ask(-1, 1));
        Check.due("nothing happened", x.result(0), 5);
        x.hint(1);
        Check.due("goes", x.ask(1, 1), 1);
        Check.thrown("no name is told first", IndexOutOfBoundsException.class, () -> x.ask(2, 1));
        Check.thrown("one goes on", IllegalStateException.class, () -> x.ask(1, 6));
        Check.due("still", x.query(3), 1);
        x.lose();
        Check.due("another one", x.ask(1, 16), 1);
    }

    private static void noHints() {
        NameSeeker x = new NameSeeker();
        Check.due("ends at once", x.ask(0, 1), 0);
        Check.due("failed", x.result(0), 3);
        for (Check.Call call : new Check.Call[] {x::step, x::lose, x::forge}) {
            Check.thrown("no query is out", IllegalStateException.class, call);
        }
        Check.thrown("no query", IllegalStateException.class, () -> x.query(9));
        x.feed(1, 2, 3, 4, 5);
        Check.thrown("forge without a query", IllegalStateException.class, x::forge);
        Check.due("used the tape up", x.count(8), 0);
        x.feed(1, 2, 3, 4, 5);
        Check.thrown("step without a query", IllegalStateException.class, x::step);
        Check.due("has nothing of the tape", x.count(8), 20);
    }

    private static void hintsInTurn() {
        NameSeeker x = new NameSeeker();
        x.hint(3);
        x.hint(2);
        x.ask(0, 1);
        Check.due("first", x.query(0), 3);
        Check.due("id 1", x.query(1), 1);
        Check.due("no server: goes on", x.step(), 1);
        Check.due("second", x.query(0), 2);
        Check.due("id 2", x.query(1), 2);
        Check.due("ends", x.lose(), 0);
        Check.due("failed", x.result(0), 3);
        Check.due("two went out", x.result(4), 2);
        x.ask(0, 1);
        Check.due("ids go on", x.query(1), 3);
        Check.due("sent in this one", x.result(4), 1);
        Check.due("sent ever", x.count(7), 3);
    }

    private static void walkDown() {
        NameSeeker x = Scene.tree();
        x.feed(1, 2, 3, 4, 5);
        Check.due("ask", x.ask(3, 1), 1);
        Check.due("at the root", x.query(5), 0);
        Check.due("goes on", x.step(), 1);
        Check.due("at a", x.query(5), 1);
        Check.due("to its server", x.query(0), 11);
        Check.due("ends", x.step(), 0);
        Check.due("found", x.result(0), 0);
        Check.due("two", x.result(1), 2);
        Check.due("in the order told", x.data(0), 77);
        Check.due("and second", x.data(1), 78);
        Check.due("no third", x.data(2), 0);
        Check.due("none below", x.data(-1), 0);
        Check.due("the tape is as it was", x.count(8), 20);
        Check.due("kept: w.a", x.cached(3, 1), 2);
        Check.due("kept: a", x.cached(1, 2), 1);
        Check.due("kept: ns.a", x.cached(2, 1), 1);
        x.tick(24);
        Check.due("from the cache", x.ask(3, 1), 0);
        Check.due("without a query", x.result(4), 0);
        Check.due("found", x.data(1), 78);
        x.tick(1);
        Check.due("the least life is over", x.cached(3, 1), -1);
        Check.due("it asks again", x.ask(3, 1), 1);
        Check.due("at a at once", x.query(5), 1);
    }

    private static void serverThatIsNotThere() {
        NameSeeker x = Scene.tree();
        x.serve(1, 1, false);
        x.ask(3, 1);
        x.step();
        Check.due("it says nothing", x.step(), 0);
        Check.due("failed", x.result(0), 3);
        Check.due("nothing of w.a", x.cached(3, 1), -1);
    }

    private static void lost() {
        NameSeeker x = Scene.tree();
        x.hint(12);
        x.ask(3, 1);
        Check.due("lost", x.lose(), 1);
        Check.due("the other hint", x.query(0), 12);
        Check.due("lost, too", x.lose(), 0);
        Check.due("failed", x.result(0), 3);
        Check.due("nothing is kept", x.count(6), 0);
    }

    private static void unknownHost() {
        NameSeeker x = Scene.tree();
        Check.name(x, "b");
        Check.name(x, "q.b");
        x.record(0, 4, 2, 3, 60);
        x.record(0, 4, 2, 2, 60);
        x.zone(4, 9);
        x.server(78);
        x.serve(2, 2, true);
        x.record(2, 5, 16, -3, 9);
        x.ask(5, 16);
        Check.due("one frame", x.query(4), 1);
        Check.due("led to b", x.step(), 1);
        Check.due("an address that was told goes first", x.query(0), 11);
        x.lose();
        Check.due("then w.a is sent for", x.query(2), 3);
        Check.due("of type 1", x.query(3), 1);
        Check.due("in a second frame", x.query(4), 2);
        Check.due("at the root", x.query(5), 0);
        Check.due("result(3) is the first frame's", x.result(3), 5);
        x.step();
        Check.due("at a", x.query(5), 1);
        x.step();
        Check.due("the first goes on", x.query(4), 1);
        Check.due("at b", x.query(5), 4);
        Check.due("to the first new address", x.query(0), 77);
        x.step();
        Check.due("to the second new address", x.query(0), 78);
        Check.due("ends", x.step(), 0);
        Check.due("found", x.data(0), -3);
        Check.due("queries", x.result(4), 6);
    }

    private static void hostsInCircle() {
        NameSeeker x = Scene.tree();
        x.drop(0, 2, 1);
        x.ask(3, 1);
        Check.due("led to a without an address", x.step(), 0);
        Check.due("four frames for ns.a, all failed", x.result(0), 3);
        Check.due("one query", x.result(4), 1);
        Check.due("the host is not known", x.cached(2, 1), -1);
    }

    private static void fourFrames() {
        NameSeeker x = new NameSeeker();
        String[] texts = {"a", "b", "c", "d", "e", "x.a", "n.b", "n.c", "n.d", "n.e"};
        for (String text : texts) {
            Check.name(x, text);
        }
        x.zone(0, 9);
        x.server(1);
        x.serve(0, 0, true);
        x.hint(1);
        // a is served by n.b, b by n.c, and so on: each host is found out by one more frame.
        for (int k = 0; k < 4; k++) {
            x.record(0, k + 1, 2, 7 + k, 50);
        }
        x.ask(6, 1);
        for (int frames = 2; frames <= 4; frames++) {
            Check.due("led on", x.step(), 1);
            Check.due("frames", x.query(4), frames);
            Check.due("for", x.query(2), 5 + frames);
        }
        Check.due("a fifth is not made", x.step(), 0);
        Check.due("failed", x.result(0), 3);
        Check.due("queries", x.result(4), 4);
    }

    private static void addressesInTurn() {
        NameSeeker x = Scene.asking(1);
        Scene.forge(x, Scene.reply(x, 0, 0, 3, 4).named("a", 2, "m", 9).named("a", 2, "n", 9).named("a", 2, "o", 9)
            .address("n", 5, 9).address("m", 8, 9).address("n", 8, 9).address("m", 6, 9));
        int[] want = {8, 6, 5};
        for (int address : want) {
            Check.due("by the order of hosts", x.query(0), address);
            x.lose();
        }
        Check.due("8 once, then o is sent for", Check.textOf(x, x.query(2)).equals("o"), true);
        Check.due("to the hint, which another frame tried", x.query(0), 1);
        Check.due("it fails, and so does all", x.lose(), 0);
        Check.due("failed", x.result(0), 3);
    }

    private static void placeChangesWhatWasTried() {
        NameSeeker x = Scene.asking(1);
        Scene.forge(x, Scene.reply(x, 0, 0, 1, 1).named("a", 2, "m", 9).address("m", 1, 9));
        Check.due("1 is asked once more", x.query(0), 1);
        Check.due("at a", Check.textOf(x, x.query(5)).equals("a"), true);
        Scene.forge(x, Scene.reply(x, 0, 0, 1, 0).named("b.a", 2, "m", 9));
        Check.due("and once more", x.query(0), 1);
        Check.due("at b.a", Check.textOf(x, x.query(5)).equals("b.a"), true);
        x.tick(9);
        x.lose();
        Check.due("all is over: back at the root", x.query(5), 0);
        Check.due("where nothing counts as tried", x.query(0), 1);
        Check.due("the fourth query", x.result(4), 4);
    }

    private static void chains() {
        NameSeeker x = new NameSeeker();
        x.zone(0, 9);
        x.server(1);
        x.serve(0, 0, true);
        x.hint(1);
        for (int k = 1; k <= 10; k++) {
            Check.name(x, "n" + k);
        }
        for (int k = 1; k <= 9; k++) {
            x.record(0, k, 5, k + 1, 40);
        }
        x.record(0, 10, 1, 5, 40);
        x.ask(2, 1);
        for (int k = 0; k < 8; k++) {
            Check.due("name " + k, x.query(2), 2 + k);
            Check.due("goes on", x.step(), 1);
        }
        Check.due("eight followed", x.result(2), 8);
        Check.due("not ended", x.result(0), 4);
        Check.due("ends", x.step(), 0);
        Check.due("found", x.result(0), 0);
        Check.due("at", x.result(3), 10);
        Check.due("data", x.data(0), 5);
        x.ask(1, 1);
        Check.due("a ninth is not followed", x.step(), 0);
        Check.due("failed", x.result(0), 3);
        Check.due("chains", x.result(2), 8);
        Check.due("at the ninth", x.result(3), 9);
        Check.due("found nothing", x.result(1), 0);
        Check.due("an alias that is asked for", x.ask(1, 5), 0);
        Check.due("is found", x.data(0), 2);
        Check.due("and not followed", x.result(2), 0);
    }

    private static void chainOfAnother() {
        NameSeeker x = Scene.asking(5);
        Scene.forge(x, Scene.reply(x, AA, 2, 0, 0).named("w.b.a", 5, "x", 9).named("w.b.a", 5, "y", 9));
        Check.due("both of a type that was asked for", x.result(1), 2);
        x.ask(3, 1);
        Check.due("the first is followed", Check.textOf(x, x.query(2)).equals("x"), true);
        Check.due("chains while it goes", x.result(2), 1);
        Check.due("name while it goes", x.result(3), x.query(2));
        NameSeeker y = Scene.asking(1);
        Scene.forge(y, Scene.reply(y, AA, 3, 0, 0).named("x", 5, "q", 9).named("w.b.a", 5, "x", 7).named("w.b.a", 5, "y", 3));
        Check.due("the first one alone", y.cached(3, 5), 1);
        Check.due("is followed", Check.textOf(y, y.query(2)).equals("x"), true);
        Check.due("others are not kept", y.cached(y.query(2), 5), -1);
        y.tick(6);
        Check.due("its own life", y.cached(3, 5), 1);
        y.tick(1);
        Check.due("is over", y.cached(3, 5), -1);
    }

    private static void nothings() {
        NameSeeker x = Scene.asking(1);
        Check.due("absent ends it", Scene.forge(x, Scene.reply(x, 3, 0, 1, 0).soa(".", 20, 10)), 0);
        Check.due("absent", x.result(0), 2);
        Check.due("of the name", x.cached(3, 0), 0);
        Check.due("not of the type", x.cached(3, 1), -1);
        Check.due("another type is absent, too", x.ask(3, 16), 0);
        Check.due("absent", x.result(0), 2);
        Check.due("at", x.result(3), 3);
        x.tick(9);
        Check.due("the lesser number", x.cached(3, 0), 0);
        x.tick(1);
        Check.due("is over", x.cached(3, 0), -1);
        x.ask(3, 1);
        Check.due("empty ends it", Scene.forge(x, Scene.reply(x, AA, 0, 1, 0).soa("elsewhere", 5, 10)), 0);
        Check.due("empty", x.result(0), 1);
        Check.due("of name and type", x.cached(3, 1), 0);
        Check.due("not of the name", x.cached(3, 0), -1);
        Check.due("another type is asked", x.ask(3, 16), 1);
        Check.due("absent, too", Scene.forge(x, Scene.reply(x, 3, 0, 2, 0).soa(".", 50, 60).soa(".", 1, 1)), 0);
        x.ask(3, 1);
        Check.due("absent is told ahead of empty", x.result(0), 2);
        x.tick(49);
        Check.due("the first soa counts", x.cached(3, 0), 0);
        x.tick(1);
        Check.due("till 60", x.cached(3, 0), -1);
    }

    private static void rootSet() {
        NameSeeker x = new NameSeeker();
        Check.name(x, "m");
        x.hint(1);
        x.ask(0, 2);
        Check.due("the root's hosts", Scene.forge(x, Scene.reply(x, AA, 1, 0, 0).named(".", 2, "m", 9)), 0);
        x.ask(0, 1);
        Check.due("in place of hints, which do not tell where m is", x.result(0), 3);
        x.tick(9);
        Check.due("when they are over the hints again", x.ask(0, 1), 1);
        Check.due("at", x.query(0), 1);
    }

    private static void fortyQueries() {
        NameSeeker x = Scene.asking(1);
        Check.Message wide = Scene.reply(x, 0, 0, 5, 45);
        for (int k = 0; k < 5; k++) {
            wide.named("a", 2, "" + (char) ('m' + k), 9);
        }
        for (int k = 0; k < 45; k++) {
            wide.address("" + (char) ('m' + k / 9), k, 9);
        }
        Scene.forge(x, wide);
        for (int k = 0; k < 38; k++) {
            Check.due("address " + k, x.query(0), k);
            x.lose();
        }
        Check.due("the 40th", x.query(0), 38);
        Check.due("went out", x.result(4), 40);
        Check.due("a 41st does not", x.lose(), 0);
        Check.due("failed", x.result(0), 3);
        Check.due("forty", x.result(4), 40);
        Check.due("ever", x.count(7), 40);
        Check.due("another seeking may", x.ask(3, 1), 1);
    }

    private static void notAReply() {
        NameSeeker x = Scene.asking(1);
        int id = x.query(1);
        Check.Message[] wrong = {
            new Check.Message(id + 1, REPLY, 1, 0, 0).question("w.b.a", 1).address("w.b.a", 7, 9),
            new Check.Message(id, AA, 1, 0, 0).question("w.b.a", 1).address("w.b.a", 7, 9),
            new Check.Message(id, REPLY, 1, 0, 0).question("b.a", 1).address("w.b.a", 7, 9),
            new Check.Message(id, REPLY, 1, 0, 0).question("w.b.a", 16).address("w.b.a", 7, 9),
            new Check.Message(id, REPLY, 1, 0, 0).name("w.b.a").two(1).two(3).address("w.b.a", 7, 9),
            new Check.Message(id, REPLY, 2, 0, 0).question("w.b.a", 1).address("w.b.a", 7, 9),
            new Check.Message(id, REPLY, 0, 0, 0).question("w.b.a", 1).address("w.b.a", 7, 9),
        };
        for (int k = 0; k < wrong.length; k++) {
            Check.due("none to it: " + k, Scene.forge(x, wrong[k]), -1);
            Check.due("the query is out still", x.query(0), 1);
            Check.due("nothing is kept", x.count(6), 0);
        }
        int names = x.count(0);
        Check.due("with a new name", Scene.forge(x, new Check.Message(id, REPLY, 1, 0, 0).question("w.b.a", 1)
            .address("new", 7, 9).raw(0)), -1);
        Check.due("the name is made", x.count(0), names + 1);
        Check.due("empty tape", x.forge(), -1);
        Check.due("a reply at last", Scene.forge(x, new Check.Message(id, REPLY, 1, 0, 0).question("w.b.a", 1)
            .address("w.b.a", 7, 9)), 0);
        Check.due("found", x.data(0), 7);
    }

    private static void repliesTakeTheFirstThatFits() {
        NameSeeker x = Scene.asking(1);
        Scene.forge(x, Scene.reply(x, AA + 3, 2, 2, 1).named("w.b.a", 5, "q", 9).address("w.b.a", 7, 9).soa(".", 9, 9)
            .named("a", 2, "m", 9).address("m", 5, 9));
        Check.due("the set alone", x.count(6), 1);
        Check.due("found", x.data(0), 7);
        NameSeeker y = Scene.asking(1);
        Scene.forge(y, Scene.reply(y, AA + 3, 2, 1, 0).address("a", 3, 9).named("w.b.a", 5, "q", 9).soa(".", 9, 9));
        Check.due("the alias alone", y.count(6), 1);
        Check.due("it is kept", y.cached(3, 5), 1);
        NameSeeker z = Scene.asking(5);
        Scene.forge(z, Scene.reply(z, AA, 1, 1, 0).address("w.b.a", 3, 9).soa(".", 9, 9));
        Check.due("no alias: nothing of it", z.cached(3, 5), 0);
        NameSeeker u = Scene.asking(1);
        Scene.forge(u, Scene.reply(u, 0, 0, 2, 1).soa(".", 9, 9).named("a", 2, "m", 9).address("m", 5, 9));
        Check.due("without aa the referral", u.count(6), 2);
        NameSeeker v = Scene.asking(1);
        Scene.forge(v, Scene.reply(v, AA + 2, 0, 2, 1).soa(".", 9, 9).named("a", 2, "m", 9).address("m", 5, 9));
        Check.due("with another code, too", v.count(6), 2);
        NameSeeker w = Scene.asking(1);
        Scene.forge(w, Scene.reply(w, AA + 3, 1, 0, 1).soa(".", 9, 9).soa(".", 9, 9));
        Check.due("an soa of another section is none", w.count(6), 0);
        Check.due("it failed", w.result(0), 3);
        NameSeeker t = Scene.asking(1);
        Scene.forge(t, Scene.reply(t, 0, 0, 1, 0).address("w.b.a", 3, 9));
        Check.due("an address of another section is none", t.count(6), 0);
        NameSeeker s = Scene.asking(1);
        Scene.forge(s, Scene.reply(s, AA, 1, 1, 0).name("w.b.a").two(1).two(3).four(9).two(4).four(7)
            .name(".").two(6).two(3).four(9).two(22).raw(new int[22]));
        Check.due("other classes do not count", s.count(6), 0);
    }

    private static void badReferrals() {
        String[] owners = {".", "c", "x.w.b.a", "c.a"};
        for (String owner : owners) {
            NameSeeker x = Scene.asking(1);
            Scene.forge(x, Scene.reply(x, 0, 0, 2, 1).named(owner, 2, "m", 9).named("a", 2, "m", 9).address("m", 5, 9));
            Check.due("not to " + owner, x.count(6), 0);
            Check.due("failed", x.result(0), 3);
        }
        NameSeeker x = Scene.asking(1);
        Scene.forge(x, Scene.reply(x, 0, 0, 1, 1).named("b.a", 2, "m", 9).address("m", 5, 9));
        for (String owner : new String[] {"a", "b.a"}) {
            Check.due("at", Check.textOf(x, x.query(5)).equals("b.a"), true);
            Check.Message up = Scene.reply(x, 0, 0, 1, 1).named(owner, 2, "n", 9).address("n", 6, 9);
            if (owner.equals("a")) {
                Check.due("not up", Scene.forge(x, up), 0);
                x.ask(3, 1);
            } else {
                Check.due("not to itself", Scene.forge(x, up), 0);
            }
        }
        Check.due("nothing came", x.count(6), 2);
    }

    private static void referralTakes() {
        NameSeeker x = Scene.asking(1);
        Scene.forge(x, Scene.reply(x, 0, 0, 4, 5).named("b.a", 2, "m", 9).named("a", 2, "n", 3).named("b.a", 2, "o", 7)
            .address("b.a", 1, 1).address("m", 5, 9).address("n", 6, 9).address("o", 7, 9).address("m", 8, 4)
            .number("o", 1, 1));
        int m = Check.name(x, "m");
        int n = Check.name(x, "n");
        int o = Check.name(x, "o");
        Check.due("of the first one's owner", x.cached(2, 2), 2);
        Check.due("not of another", x.cached(1, 2), -1);
        Check.due("addresses of m", x.cached(m, 1), 2);
        Check.due("addresses of o", x.cached(o, 1), 1);
        Check.due("none of n, which is no host of it", x.cached(n, 1), -1);
        Check.due("nor of type 16", x.cached(o, 16), -1);
        Check.due("three in all", x.count(6), 3);
        x.tick(4);
        Check.due("m's least life", x.cached(m, 1), -1);
        x.tick(3);
        Check.due("the hosts' least life", x.cached(2, 2), -1);
        Check.due("o's", x.cached(o, 1), 1);
        NameSeeker y = Scene.asking(1);
        Scene.forge(y, Scene.reply(y, 0, 0, 1, 1).named("a", 2, "m", 0).address("m", 5, 9));
        Check.due("a set without life brings its addresses", y.cached(Check.name(y, "m"), 1), 1);
        Check.due("and is kept, but does not hold", y.count(6), 2);
        Check.due("so", y.cached(1, 2), -1);
    }

    private static void sets() {
        NameSeeker x = Scene.asking(16);
        Check.Message many = Scene.reply(x, AA, 15, 0, 0);
        for (int k = 0; k < 15; k++) {
            many.number("w.b.a", k < 3 ? 0 : k, k == 14 ? 2 : 9);
        }
        Scene.forge(x, many);
        Check.due("ten", x.result(1), 10);
        Check.due("the first", x.data(0), 0);
        Check.due("then the first unlike", x.data(1), 3);
        Check.due("the tenth", x.data(9), 11);
        x.tick(2);
        Check.due("the least life of all of them", x.cached(3, 16), -1);
        Check.due("what was found stays", x.data(9), 11);
        x.ask(3, 16);
        Check.due("till the next seeking", x.data(9), 0);
        Check.due("which found nothing yet", x.result(1), 0);
    }

    private static void lives() {
        NameSeeker x = Scene.asking(1);
        Scene.forge(x, Scene.reply(x, AA, 1, 0, 0).address("w.b.a", 7, 0xffffffffL));
        x.tick(100000);
        Check.due("lives have no sign", x.cached(3, 1), 1);
        x.ask(3, 16);
        Scene.forge(x, Scene.reply(x, AA, 0, 1, 0).soa(".", 0xffffffffL, 0x80000000L));
        Check.due("nor has the last number", x.cached(3, 16), 0);
        x.ask(3, 2);
        Check.due("life 0 does not hold", Scene.forge(x, Scene.reply(x, AA, 1, 0, 0).named("w.b.a", 2, "m", 0)), 0);
        Check.due("failed", x.result(0), 3);
        Check.due("but it is there", x.count(6), 3);
        x.ask(3, 2);
        Scene.forge(x, Scene.reply(x, AA, 0, 1, 0).soa(".", 5, 5));
        Check.due("another of that name and type goes", x.count(6), 3);
        Check.due("a nothing in the place of a set", x.cached(3, 2), 0);
        x.tick(5);
        x.ask(3, 2);
        Scene.forge(x, Scene.reply(x, AA, 1, 0, 0).named("w.b.a", 2, "m", 5));
        Check.due("a set in the place of a nothing", x.cached(3, 2), 1);
        Check.due("as many", x.count(6), 3);
    }

    private static void cacheIsFull() {
        NameSeeker x = new NameSeeker();
        x.zone(0, 50);
        x.server(1);
        x.serve(0, 0, true);
        x.hint(1);
        Check.Message message = new Check.Message(0, 0, 26, 0, 0).question(".", 1);
        for (int k = 0; k < 26; k++) {
            message.name("" + (char) ('a' + k)).two(9).two(1).four(0).two(0);
        }
        message.feedTo(x);
        x.parse();
        int[] types = {16, 1, 2, 5};
        for (int k = 0; k < 25; k++) {
            x.record(0, k + 1, 16, k, k == 0 ? 40 : 50);
        }
        // Of each NAME a SET of 16 and NOTHINGS of the three others: all end at 50 but the first at 40.
        for (int k = 0; k < 100; k++) {
            x.ask(1 + k % 25, types[k / 25]);
            x.step();
        }
        Check.due("a hundred", x.count(6), 100);
        Check.due("the one that ends first", x.cached(1, 16), 1);
        x.ask(26, 1);
        x.step();
        Check.due("still a hundred", x.count(6), 100);
        Check.due("that goes", x.cached(1, 16), -1);
        Check.due("for this one", x.cached(26, 0), 0);
        Check.due("those that end later stay", x.cached(2, 16), 1);
        x.ask(1, 16);
        x.step();
        Check.due("of those alike the first that was put in goes", x.cached(2, 16), -1);
        Check.due("the next one stays", x.cached(3, 16), 1);
        Check.due("the one that came into an old place stays", x.cached(26, 0), 0);
        x.tick(40);
        Check.due("it is over at 40", x.cached(1, 16), -1);
        x.ask(1, 16);
        x.step();
        Check.due("one of the same goes, no other", x.cached(3, 16), 1);
        Check.due("a hundred", x.count(6), 100);
        Check.due("it is new", x.cached(1, 16), 1);
    }

    private static void queries() {
        NameSeeker x = Scene.asking(16);
        int[] want = {1, 1, 3, 16, 1, 0};
        for (int what = 0; what < want.length; what++) {
            Check.due("query(" + what + ")", x.query(what), want[what]);
        }
        Check.thrown("query(6)", NoSuchElementException.class, () -> x.query(6));
        Check.thrown("query(-1)", NoSuchElementException.class, () -> x.query(-1));
        x.lose();
        Check.thrown("none is out", IllegalStateException.class, () -> x.query(6));
    }

    private static void results() {
        NameSeeker x = Scene.asking(16);
        int[] going = {4, 0, 0, 3, 1};
        for (int what = 0; what < going.length; what++) {
            Check.due("going: result(" + what + ")", x.result(what), going[what]);
        }
        x.lose();
        int[] failed = {3, 0, 0, 3, 1};
        for (int what = 0; what < failed.length; what++) {
            Check.due("failed: result(" + what + ")", x.result(what), failed[what]);
        }
        Check.thrown("result(5)", NoSuchElementException.class, () -> x.result(5));
        Check.thrown("result(-1)", NoSuchElementException.class, () -> x.result(-1));
        Check.thrown("result(5) of a new one", NoSuchElementException.class, () -> new NameSeeker().result(5));
        Check.thrown("cached(4, 1)", IndexOutOfBoundsException.class, () -> x.cached(4, 1));
        Check.thrown("cached(-1, 1)", IndexOutOfBoundsException.class, () -> x.cached(-1, 1));
        Check.due("cached of an odd type", x.cached(3, 77), -1);
        Check.due("cached of type 0", x.cached(3, 0), -1);
    }

    private static void counts() {
        NameSeeker x = Scene.tree();
        x.hint(4);
        x.tick(6);
        x.ask(3, 1);
        x.step();
        x.feed(1, 2, 3, 4, 5);
        int[] want = {4, 2, 4, 2, 2, 6, 2, 2, 20};
        for (int what = 0; what < want.length; what++) {
            Check.due("count(" + what + ")", x.count(what), want[what]);
        }
        Check.due("count(9)", x.count(9), -1);
        Check.due("count(-1)", x.count(-1), -1);
        x.tick(1000);
        Check.due("those that are over are counted, too", x.count(6), 2);
    }
}
