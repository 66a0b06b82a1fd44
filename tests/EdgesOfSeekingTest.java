import java.util.NoSuchElementException;

/** Terms 4, of SEEKINGS, and promises 18 to 24: a method for each sentence that names a boundary, told above it. */
public final class EdgesOfSeekingTest {
    private static final int REPLY = Scene.REPLY;
    private static final int AA = Scene.AA;

    public static void main(String[] args) {
        askNoSuchName();
        askNotAtItsEnd();
        askTypes();
        askEndsAtOnce();
        cachedSetEndsIt();
        eightChains();
        chainsWithoutAnEnd();
        chainsOfAnotherFrame();
        chainsOfTypeFive();
        chainsForgetWhatWasTried();
        chainsForgetWhoWasSentFor();
        chainsToTheFirstData();
        absentAheadOfEmpty();
        nearestName();
        nearestOfSix();
        rootWithoutASet();
        eachAddressOnce();
        addressesOfAllHosts();
        idsFromOneOn();
        idsGoRound();
        fortyQueries();
        fortyQueriesOfAllFrames();
        sentForOnce();
        sentForTheRoot();
        sentForThoseWithoutASet();
        fourFrames();
        onlyTheFifthFails();
        noneIsLeft();
        repliesToTheQuery();
        replyOfTheFirstSection();
        replyOfAChain();
        replyOfAnSoa();
        replyWithoutAnSoa();
        referralInPlace();
        referralOfTheFirstOwner();
        referralOfTenHosts();
        stepWithoutAServer();
        noQueryIsOut();
        forgeAnswersNone();
        forgeWithoutAQuery();
        queryOfOthers();
        resultOfOthers();
        resultOfStates();
        dataNoneSuch();
        Check.finish();
    }

    /** Promise 18, and "IndexOutOfBoundsException: there is no such NAME", told ahead of all else. */
    private static void askNoSuchName() {
        NameSeeker x = new NameSeeker();
        x.hint(1);
        for (int run = 0; run < 2; run++) {
            for (int name : new int[] {Integer.MIN_VALUE, -1, 1, 300, Integer.MAX_VALUE}) {
                Check.thrown("ask(" + name + ", 1)", IndexOutOfBoundsException.class, () -> x.ask(name, 1));
                Check.thrown("ask(" + name + ", 6)", IndexOutOfBoundsException.class, () -> x.ask(name, 6));
            }
            Check.due("run " + run, x.result(0), run == 0 ? 5 : 4);
            if (run == 0) {
                x.ask(0, 1);
            }
        }
    }

    /** Promise 18: "IllegalStateException: one is not at its end", told ahead of the TYPE. */
    private static void askNotAtItsEnd() {
        NameSeeker x = Scene.asking(16);
        Check.thrown("another", IllegalStateException.class, () -> x.ask(1, 1));
        Check.thrown("the same", IllegalStateException.class, () -> x.ask(3, 16));
        Check.thrown("of no type", IllegalStateException.class, () -> x.ask(1, 6));
        Check.due("it goes on", x.query(2), 3);
        Check.due("of its type", x.query(3), 16);
        x.lose();
        Check.due("at its end", x.ask(1, 1), 1);
    }

    /** Promise 18: "IllegalArgumentException: TYPE is not 1, 2, 5, 16." */
    private static void askTypes() {
        for (int type = -1; type <= 20; type++) {
            NameSeeker x = new NameSeeker();
            x.hint(1);
            int t = type;
            if (t == 1 || t == 2 || t == 5 || t == 16) {
                Check.due("type " + t, x.ask(0, t), 1);
                Check.due("it is asked", x.query(3), t);
            } else {
                Check.thrown("type " + t, IllegalArgumentException.class, () -> x.ask(0, t));
                Check.due("none began", x.result(0), 5);
            }
        }
        for (int t : new int[] {Integer.MIN_VALUE, 257, 65537, Integer.MAX_VALUE}) {
            Check.thrown("type " + t, IllegalArgumentException.class, () -> new NameSeeker().ask(0, t));
        }
    }

    /** Promise 18: "goes on till a QUERY is out: 1, or it ends: 0"; without a HINT it fails. */
    private static void askEndsAtOnce() {
        NameSeeker x = new NameSeeker();
        Check.name(x, "a");
        for (int name = 0; name < 2; name++) {
            Check.due("nobody to ask", x.ask(name, 1), 0);
            Check.due("failed", x.result(0), 3);
            Check.due("at", x.result(3), name);
            Check.due("no query", x.count(7), 0);
            Check.thrown("none is out", IllegalStateException.class, x::lose);
        }
    }

    /** Terms 4 (a): "the CACHE has the SET of NAME and TYPE: the FRAME ends, FOUND", ahead of a TYPE 5. */
    private static void cachedSetEndsIt() {
        NameSeeker x = Scene.asking(1);
        Scene.forge(x, Scene.reply(x, AA, 1, 0, 0).address("w.b.a", 5, 9));
        x.ask(3, 5);
        Scene.forge(x, Scene.reply(x, AA, 1, 0, 0).named("w.b.a", 5, "a", 9));
        x.ask(3, 16);
        Check.due("of type 16 the chain", x.result(2), 1);
        Scene.forge(x, Scene.reply(x, 3, 0, 1, 0).soa(".", 9, 9));
        Check.due("to one that is absent", x.result(0), 2);
        Check.due("of type 1 the set", x.ask(3, 1), 0);
        Check.due("found", x.result(0), 0);
        Check.due("no chain", x.result(2), 0);
        Check.due("no query", x.result(4), 0);
    }

    /** A root zone in which n1 stands for n2, that for n3, and so on, and the last has an address. */
    private static NameSeeker chain(int links) {
        NameSeeker x = Scene.rooted();
        for (int k = 1; k <= links + 1; k++) {
            Check.name(x, "n" + k);
        }
        for (int k = 1; k <= links; k++) {
            x.record(0, k, 5, k + 1, 90);
        }
        x.record(0, links + 1, 1, 7, 90);
        return x;
    }

    /** Terms 4 (b): "if 8 CHAINS were followed it ends, FAILED". */
    private static void eightChains() {
        for (int links = 0; links <= 10; links++) {
            NameSeeker x = chain(links);
            int going = x.ask(1, 1);
            while (going == 1) {
                going = x.step();
            }
            boolean fits = links <= 8;
            Check.due(links + " links", x.result(0), fits ? 0 : 3);
            Check.due(links + " links: chains", x.result(2), Math.min(links, 8));
            Check.due(links + " links: at", x.result(3), Math.min(links, 8) + 1);
            Check.due(links + " links: data", x.data(0), fits ? 7 : 0);
            Check.due(links + " links: queries", x.result(4), Math.min(links, 8) + 1);
            Check.due("out of the cache", x.ask(1, 1), 0);
            Check.due(links + " links again", x.result(0), fits ? 0 : 3);
            Check.due(links + " links again: chains", x.result(2), Math.min(links, 8));
            Check.due(links + " links again: queries", x.result(4), 0);
        }
    }

    /** Terms 4 (b): names that stand for one another end by the eight. */
    private static void chainsWithoutAnEnd() {
        NameSeeker x = Scene.rooted();
        Check.name(x, "a");
        Check.name(x, "b");
        x.record(0, 1, 5, 1, 90);
        x.ask(1, 1);
        Check.due("it stands for itself", x.step(), 0);
        Check.due("failed", x.result(0), 3);
        Check.due("eight", x.result(2), 8);
        Check.due("one query", x.result(4), 1);
        x.drop(0, 1, 5);
        x.record(0, 1, 5, 2, 90);
        x.record(0, 2, 5, 1, 90);
        x.tick(90);
        x.ask(1, 16);
        Check.due("one for the other", x.step(), 1);
        Check.due("and back", x.step(), 0);
        Check.due("failed", x.result(0), 3);
        Check.due("at the first again", x.result(3), 1);
    }

    /** Terms 4 (b): "it ends, FAILED": the FRAME does, and the one that sent for it goes on. */
    private static void chainsOfAnotherFrame() {
        NameSeeker x = Scene.asking(1);
        Scene.forge(x, Scene.reply(x, 0, 0, 2, 0).named("a", 2, "m", 9).named("a", 2, "n", 9));
        Check.due("m is sent for", Scene.asked(x).equals("m"), true);
        Check.due("m stands for itself", Scene.forge(x, Scene.reply(x, AA, 1, 0, 0).named("m", 5, "m", 9)), 1);
        Check.due("so n is sent for", Scene.asked(x).equals("n"), true);
        Check.due("in a second frame", x.query(4), 2);
        Check.due("the chains of the first", x.result(2), 0);
        Scene.forge(x, Scene.reply(x, AA, 1, 0, 0).address("n", 6, 9));
        Check.due("the first goes on", x.query(0), 6);
    }

    /** Terms 4 (b): "TYPE is not 5". */
    private static void chainsOfTypeFive() {
        NameSeeker x = chain(2);
        x.ask(1, 5);
        Check.due("it is found", x.step(), 0);
        Check.due("the name", x.data(0), 2);
        Check.due("not followed", x.result(2), 0);
        x.ask(3, 5);
        Check.due("none of that type", x.step(), 0);
        Check.due("empty", x.result(0), 1);
    }

    /** Terms 4 (b): "one CHAIN more, nothing is TRIED"; the PLACE stays. */
    private static void chainsForgetWhatWasTried() {
        NameSeeker x = Scene.asking(1);
        Scene.forge(x, Scene.reply(x, 0, 0, 1, 2).named("a", 2, "m", 9).address("m", 5, 9).address("m", 6, 9));
        x.lose();
        Check.due("the second address", x.query(0), 6);
        Scene.forge(x, Scene.reply(x, AA, 1, 0, 0).named("w.b.a", 5, "z.a", 9));
        Check.due("another name", Scene.asked(x).equals("z.a"), true);
        Check.due("at the same place", Scene.place(x).equals("a"), true);
        Check.due("from the first address on", x.query(0), 5);
    }

    /** Terms 4 (b): "nobody sent for". */
    private static void chainsForgetWhoWasSentFor() {
        NameSeeker x = Scene.asking(1);
        Scene.forge(x, Scene.reply(x, 0, 0, 2, 1).named("a", 2, "m", 9).named("a", 2, "n", 9).address("m", 5, 9));
        x.lose();
        Check.due("n is sent for", Scene.asked(x).equals("n"), true);
        // The reply tells m's address anew, so that the first FRAME has one that was not tried.
        Scene.forge(x, Scene.reply(x, 0, 0, 1, 1).named("n", 2, "m", 9).address("m", 6, 9));
        Check.due("still for n", Scene.asked(x).equals("n"), true);
        x.lose();
        Check.due("n failed: to the new address", x.query(0), 6);
        Check.due("of the first frame", x.query(4), 1);
        Scene.forge(x, Scene.reply(x, AA, 1, 0, 0).named("w.b.a", 5, "z.a", 9));
        Check.due("of z.a", Scene.asked(x).equals("z.a"), true);
        Check.due("6 once more", x.query(0), 6);
        x.lose();
        Check.due("n is sent for once more", Scene.asked(x).equals("n"), true);
        Check.due("in a second frame", x.query(4), 2);
    }

    /** Terms 4 (b): "else NAME is its first DATA". */
    private static void chainsToTheFirstData() {
        NameSeeker x = Scene.asking(5);
        Scene.forge(x, Scene.reply(x, AA, 3, 0, 0).named("w.b.a", 5, "p", 9).named("w.b.a", 5, "q", 9)
            .named("w.b.a", 5, "p", 9));
        Check.due("two data", x.result(1), 2);
        x.ask(3, 2);
        Check.due("the first is followed", Scene.asked(x).equals("p"), true);
        Check.due("by a chain", x.result(2), 1);
    }

    /** Terms 4 (c): "a NOTHING of the NAME: ABSENT; of NAME and TYPE: EMPTY". */
    private static void absentAheadOfEmpty() {
        NameSeeker x = Scene.asking(1);
        Scene.forge(x, Scene.reply(x, AA, 0, 1, 0).soa(".", 20, 20));
        Check.due("empty", x.result(0), 1);
        x.ask(3, 16);
        Scene.forge(x, Scene.reply(x, AA + 3, 0, 1, 0).soa(".", 10, 10));
        Check.due("absent", x.result(0), 2);
        x.ask(3, 1);
        Check.due("both: absent", x.result(0), 2);
        x.tick(10);
        x.ask(3, 1);
        Check.due("the other holds: empty", x.result(0), 1);
        x.ask(2, 1);
        Check.due("of a name above nothing is known", x.result(0), 4);
    }

    /** Terms 4 (d): "The nearest NAME in which NAME is that has a SET of TYPE 2, else the root". */
    private static void nearestName() {
        NameSeeker x = Scene.asking(1);
        Scene.forge(x, Scene.reply(x, 0, 0, 1, 1).named("a", 2, "m", 30).address("m", 5, 90));
        Scene.forge(x, Scene.reply(x, 0, 0, 1, 0).named("b.a", 2, "m", 20));
        Scene.forge(x, Scene.reply(x, 0, 0, 1, 0).named("w.b.a", 2, "m", 10));
        Check.due("the name itself", Scene.place(x).equals("w.b.a"), true);
        String[] places = {"w.b.a", "b.a", "a", "."};
        for (int k = 0; k < 4; k++) {
            Check.due("at", Scene.place(x).equals(places[k]), true);
            Check.due("to", x.query(0), k < 3 ? 5 : 1);
            x.tick(9);
            Check.due("one before its end it is the place still", x.lose(), 0);
            Check.due("where all was tried", x.result(0), 3);
            x.ask(3, 1);
            x.tick(1);
            if (k < 3) {
                Check.due("at its end another", x.lose(), 1);
            }
        }
    }

    /** Terms 4 (d): "The nearest NAME", six LABELS up. */
    private static void nearestOfSix() {
        NameSeeker x = new NameSeeker();
        int deep = Check.name(x, "f.e.d.c.b.a");
        x.hint(1);
        x.ask(deep, 1);
        for (int place = 1; place <= 6; place++) {
            String owner = "f.e.d.c.b.a".substring(12 - 2 * place);
            Scene.forge(x, Scene.reply(x, 0, 0, 1, 1).named(owner, 2, "m", 9).address("m", 50 + place, 9));
            Check.due("at " + owner, x.query(5), place);
            Check.due("to its host", x.query(0), 50 + place);
        }
    }

    /** Terms 4 (e): "at the root (without a SET) the HINTS". */
    private static void rootWithoutASet() {
        NameSeeker x = new NameSeeker();
        x.hint(1);
        x.ask(0, 2);
        Scene.forge(x, Scene.reply(x, AA, 2, 0, 0).named(".", 2, "m", 9).named(".", 2, "n", 9));
        int m = Check.name(x, "m");
        Check.due("with a set no hint is asked", x.ask(m, 1), 0);
        Check.due("failed", x.result(0), 3);
        Check.due("without a query", x.result(4), 0);
        x.tick(9);
        Check.due("without it a hint is", x.ask(m, 1), 1);
        Check.due("at", x.query(0), 1);
        Check.due("of the root", x.query(5), 0);
        x.hint(2);
        x.lose();
        Check.due("also one that came later", x.query(0), 2);
    }

    /** Terms 4 (e): "The first address that was not TRIED"; several hosts may have one. */
    private static void eachAddressOnce() {
        NameSeeker x = Scene.asking(1);
        Scene.forge(x, Scene.reply(x, 0, 0, 3, 6).named("a", 2, "n", 9).named("a", 2, "m", 9).named("a", 2, "o", 9)
            .address("m", 5, 9).address("m", 6, 9).address("n", 6, 9).address("n", 7, 9).address("o", 7, 9)
            .address("o", 1, 9));
        int[] order = {6, 7, 5, 1};
        for (int address : order) {
            Check.due("in turn", x.query(0), address);
            x.lose();
        }
        Check.due("all were tried", x.result(0), 3);
        Check.due("five queries", x.result(4), 5);
        x.ask(3, 1);
        Check.due("another seeking tried none", x.query(0), 6);
    }

    /** Terms 4 (e): "the DATA of that SET, of each the DATA of its SET of TYPE 1", at most ten of ten. */
    private static void addressesOfAllHosts() {
        NameSeeker x = Scene.asking(1);
        Check.Message message = Scene.reply(x, 0, 0, 4, 44);
        for (int h = 0; h < 4; h++) {
            message.named("a", 2, "" + (char) ('m' + h), 9);
        }
        for (int k = 0; k < 44; k++) {
            message.address("" + (char) ('m' + k % 4), 100 * (k % 4) + k / 4, 9);
        }
        Scene.forge(x, message);
        for (int h = 0; h < 4; h++) {
            Check.due("ten of eleven", x.cached(Check.name(x, "" + (char) ('m' + h)), 1), 10);
        }
        for (int k = 0; k < 39; k++) {
            Check.due("address " + k, x.query(0), 100 * (k / 10) + k % 10);
            x.lose();
        }
        Check.due("forty", x.result(4), 40);
    }

    /** Terms 4 (e): "with the next ID (from 1 on ..)". */
    private static void idsFromOneOn() {
        NameSeeker x = new NameSeeker();
        x.hint(1);
        x.hint(2);
        for (int id = 1; id <= 9; id++) {
            if (id % 2 == 1) {
                x.ask(0, 1);
            }
            Check.due("id", x.query(1), id);
            x.feed(0, 0, 0, 0, 0);
            Check.due("no reply takes none", x.forge(), -1);
            Check.due("id still", x.query(1), id);
            x.lose();
        }
    }

    /**
     * Terms 4 (e): "going round at 65536, 0 too". An object is promised for 512 calls alone, and a call
     * sends one QUERY at most; this is what the sentence says of one that is used for longer.
     */
    private static void idsGoRound() {
        NameSeeker x = Scene.rooted();
        x.record(0, 0, 1, 7, 1);
        for (int k = 1; k < 65535; k++) {
            x.ask(0, 1);
            x.lose();
        }
        int[] ids = {65535, 0, 1};
        for (int id : ids) {
            x.ask(0, 1);
            Check.due("id", x.query(1), id);
            Check.due("its reply is one", x.step(), 0);
            Check.due("found", x.result(0), 0);
            x.tick(1);
        }
        Check.due("all of them", x.count(7), 65537);
    }

    /** Terms 4 (e): "if 40 went out in this SEEKING already, all of it FAILS instead". */
    private static void fortyQueries() {
        NameSeeker x = Scene.asking(1);
        Check.Message wide = Scene.reply(x, 0, 0, 4, 40);
        for (int k = 0; k < 4; k++) {
            wide.named("a", 2, "" + (char) ('m' + k), 9);
        }
        for (int k = 0; k < 40; k++) {
            wide.address("" + (char) ('m' + k / 10), k, 9);
        }
        Scene.forge(x, wide);
        for (int k = 2; k < 40; k++) {
            Check.due("query " + k + " is lost", x.lose(), 1);
        }
        Check.due("the fortieth", x.result(4), 40);
        Check.due("not ended", x.result(0), 4);
        Check.due("no 41st", x.lose(), 0);
        Check.due("failed", x.result(0), 3);
        Check.due("forty", x.result(4), 40);
        Check.due("forty ever", x.count(7), 40);
        Check.due("another seeking has forty of its own", x.ask(3, 1), 1);
        Check.due("its first", x.result(4), 1);
    }

    /** Terms 4 (e): "all of it FAILS", also where the FRAME below would have found it. */
    private static void fortyQueriesOfAllFrames() {
        NameSeeker x = Scene.asking(1);
        Check.Message wide = Scene.reply(x, 0, 0, 4, 30);
        for (int k = 0; k < 4; k++) {
            wide.named("a", 2, "" + (char) ('m' + k), 9);
        }
        for (int k = 0; k < 30; k++) {
            wide.address("" + (char) ('m' + k / 10), 200 + k, 9);
        }
        Scene.forge(x, wide);
        for (int k = 0; k < 30; k++) {
            x.lose();
        }
        Check.due("p is sent for", Scene.asked(x).equals("p"), true);
        Check.due("by query 32", x.result(4), 32);
        Check.Message again = Scene.reply(x, 0, 0, 1, 10).named("p", 2, "w.b.a", 9);
        for (int k = 0; k < 10; k++) {
            again.address("w.b.a", 300 + k, 9);
        }
        Scene.forge(x, again);
        for (int k = 33; k < 40; k++) {
            Check.due("query " + k, x.result(4), k);
            Check.due("two frames", x.query(4), 2);
            x.lose();
        }
        Check.due("no 41st", x.lose(), 0);
        Check.due("all of it failed", x.result(0), 3);
        Check.due("found nothing", x.result(1), 0);
        Check.due("at the first frame's name", x.result(3), 3);
        Check.due("though it is known by now", x.cached(3, 1), 10);
        Check.due("so the next seeking finds it", x.ask(3, 1), 0);
        Check.due("found", x.result(1), 10);
    }

    /** Terms 4 (f): "and was not sent for is sent for": once in a PLACE. */
    private static void sentForOnce() {
        NameSeeker x = Scene.asking(1);
        Scene.forge(x, Scene.reply(x, 0, 0, 2, 0).named("a", 2, "m", 9).named("a", 2, "n", 9));
        Check.due("the first is sent for", Scene.asked(x).equals("m"), true);
        Check.due("two frames", x.query(4), 2);
        Check.due("m fails", x.lose(), 1);
        Check.due("then the second", Scene.asked(x).equals("n"), true);
        Check.due("two frames again", x.query(4), 2);
        Check.due("n fails: none is left", x.lose(), 0);
        Check.due("failed", x.result(0), 3);
        Check.due("three queries", x.result(4), 3);
    }

    /** Terms 4 (f): a host may be the root itself, which is a NAME like others. */
    private static void sentForTheRoot() {
        NameSeeker x = Scene.asking(16);
        Scene.forge(x, Scene.reply(x, 0, 0, 1, 0).named("a", 2, ".", 9));
        Check.due("the root is sent for", x.query(2), 0);
        Check.due("of type 1", x.query(3), 1);
        Check.due("in a second frame", x.query(4), 2);
        Scene.forge(x, Scene.reply(x, AA, 1, 0, 0).address(".", 6, 9));
        Check.due("the first goes on", x.query(0), 6);
        x.lose();
        x.tick(9);
        x.ask(0, 1);
        Scene.forge(x, Scene.reply(x, AA, 1, 0, 0).address(".", 7, 9));
        x.ask(3, 16);
        Scene.forge(x, Scene.reply(x, 0, 0, 1, 1).named("a", 2, "m", 9).address("m", 5, 9));
        Check.due("to m", x.query(0), 5);
        Check.due("and not to where the root is, which is no host here", x.lose(), 0);
    }

    /** Terms 4 (f): "The first of these NAMES that has no SET of TYPE 1"; one that is over is none. */
    private static void sentForThoseWithoutASet() {
        NameSeeker x = Scene.asking(1);
        Scene.forge(x, Scene.reply(x, 0, 0, 3, 2).named("a", 2, "m", 90).named("a", 2, "n", 90).named("a", 2, "o", 90)
            .address("m", 5, 90).address("n", 6, 10));
        x.lose();
        Check.due("at n", x.query(0), 6);
        x.tick(10);
        x.lose();
        Check.due("n is over, so it is sent for", Scene.asked(x).equals("n"), true);
        Scene.forge(x, Scene.reply(x, AA, 1, 0, 0).address("n", 6, 90));
        Check.due("6 was tried, so o is sent for", Scene.asked(x).equals("o"), true);
        Scene.forge(x, Scene.reply(x, AA, 1, 0, 0).named("o", 5, "m", 90));
        Check.due("o stands for m, whose address was tried", x.result(0), 3);
        Check.due("o has no set of its own", x.cached(Check.name(x, "o"), 1), -1);
        Check.due("five queries", x.result(4), 5);
    }

    /** x.a is told of by n.b, that by n.c, that by n.d and k, n.d by n.e: each host costs a FRAME. */
    private static NameSeeker nested() {
        NameSeeker x = Scene.rooted();
        String[] texts = {"a", "b", "c", "d", "k", "x.a", "n.b", "n.c", "n.d", "n.e"};
        for (String text : texts) {
            Check.name(x, text);
        }
        x.record(0, 1, 2, 7, 90);
        x.record(0, 2, 2, 8, 90);
        x.record(0, 3, 2, 9, 90);
        x.record(0, 4, 2, 10, 90);
        return x;
    }

    /** Terms 4: "FRAMES, at most 4 within one another"; (f) "(if there are 4: it ends, FAILED)". */
    private static void fourFrames() {
        NameSeeker x = nested();
        x.ask(6, 1);
        for (int frames = 1; frames <= 4; frames++) {
            Check.due("frames", x.query(4), frames);
            Check.due("for", x.query(2), 5 + frames);
            Check.due("at the root", x.query(5), 0);
            Check.due("step", x.step(), frames < 4 ? 1 : 0);
        }
        Check.due("failed", x.result(0), 3);
        Check.due("four queries", x.result(4), 4);
        Check.due("at the first frame's name", x.result(3), 6);
        NameSeeker y = nested();
        Check.due("one frame fewer", y.ask(7, 1), 1);
        for (int frames = 1; frames <= 4; frames++) {
            Check.due("frames", y.query(4), frames);
            if (frames < 4) {
                y.step();
            }
        }
        Check.due("the fourth may ask", y.query(2), 10);
    }

    /** Terms 4: "where another one ends, the one that sent for it goes on, from (a)". */
    private static void onlyTheFifthFails() {
        NameSeeker x = nested();
        x.record(0, 3, 2, 5, 90);
        x.record(0, 5, 1, 23, 90);
        int[] apexes = {3, 2, 1};
        int[] owners = {8, 7, 6};
        for (int k = 0; k < 3; k++) {
            int zone = x.zone(apexes[k], 9);
            // The one of c is at 23, that of b at 22, that of a at 21; each tells where the next one is.
            int server = x.server(23 - k);
            x.serve(server, zone, true);
            x.record(zone, owners[k], 1, 22 - k, 90);
        }
        x.ask(6, 1);
        x.step();
        x.step();
        // The referral to c tells k's address too, so that must go for k to be sent for.
        x.drop(0, 5, 1);
        x.step();
        Check.due("four frames", x.query(4), 4);
        Check.due("for n.d", x.query(2), 9);
        x.record(0, 5, 1, 23, 90);
        Check.due("d is told of by n.e: no fifth", x.step(), 1);
        Check.due("four frames again", x.query(4), 4);
        Check.due("for k", x.query(2), 5);
        x.step();
        for (int k = 0; k < 3; k++) {
            Check.due("a frame goes on", x.query(4), 3 - k);
            Check.due("to", x.query(0), 23 - k);
            Check.due("for", x.query(2), owners[k]);
            x.step();
        }
        Check.due("found", x.result(0), 0);
        Check.due("data", x.data(0), 20);
        Check.due("queries", x.result(4), 8);
    }

    /** Terms 4 (g): "It ends, FAILED." */
    private static void noneIsLeft() {
        NameSeeker x = Scene.asking(1);
        Scene.forge(x, Scene.reply(x, 0, 0, 1, 1).named("a", 2, "m", 9).address("m", 5, 9));
        Check.due("the only address", x.lose(), 0);
        Check.due("failed", x.result(0), 3);
        x.ask(3, 1);
        Check.due("a reply that tells nothing", Scene.forge(x, Scene.reply(x, AA, 0, 0, 0)), 0);
        Check.due("failed", x.result(0), 3);
        Check.due("nothing came of it", x.count(6), 2);
    }

    /** Terms 4: "(its ID, NAME and TYPE, class 1, the flag 32768 ..)". */
    private static void repliesToTheQuery() {
        NameSeeker x = Scene.asking(1);
        int[][] heads = {{0, REPLY}, {2, REPLY}, {257, REPLY}, {1, 0}, {1, 0x7fff}};
        for (int[] head : heads) {
            Check.Message other = new Check.Message(head[0], head[1], 1, 0, 0).question("w.b.a", 1)
                .address("w.b.a", 7, 9);
            Check.due("id " + head[0] + ", flags " + head[1], Scene.forge(x, other), -1);
        }
        for (String name : new String[] {"b.a", ".", "w.b", "w.b.a.a", "ww.b.a"}) {
            Check.Message other = new Check.Message(1, REPLY, 1, 0, 0).question(name, 1).address("w.b.a", 7, 9);
            Check.due("of " + name, Scene.forge(x, other), -1);
        }
        for (int[] kind : new int[][] {{0, 1}, {2, 1}, {257, 1}, {1, 0}, {1, 2}, {1, 257}}) {
            Check.Message other = new Check.Message(1, REPLY, 1, 0, 0).name("w.b.a").two(kind[0]).two(kind[1])
                .address("w.b.a", 7, 9);
            Check.due("type " + kind[0] + ", class " + kind[1], Scene.forge(x, other), -1);
        }
        Check.due("it is out still", x.query(1), 1);
        Check.due("nothing is kept", x.count(6), 0);
        Check.due("not ended", x.result(0), 4);
        Check.due("a reply", Scene.forge(x, new Check.Message(1, REPLY, 1, 0, 0).question("w.b.a", 1)
            .address("w.b.a", 7, 9)), 0);
        Check.due("found", x.data(0), 7);
    }

    /** Terms 4: "if RECORDS of the first section have the QUERY's NAME and its TYPE: their SET". */
    private static void replyOfTheFirstSection() {
        for (int code : new int[] {0, 2, 3, 15}) {
            NameSeeker x = Scene.asking(1);
            Check.due("of code " + code, Scene.forge(x, Scene.reply(x, code, 4, 2, 1)
                .named("w.b.a", 5, "q", 9).address("b.a", 1, 9).number("w.b.a", 2, 9).address("w.b.a", 3, 9)
                .soa(".", 9, 9).named("a", 2, "m", 9).address("w.b.a", 4, 9)), 0);
            Check.due("its own alone", x.result(1), 1);
            Check.due("data", x.data(0), 3);
            Check.due("nothing else is kept", x.count(6), 1);
        }
    }

    /** Terms 4: "else, if TYPE is not 5 and some of that NAME have TYPE 5: that SET of the first one". */
    private static void replyOfAChain() {
        NameSeeker x = Scene.asking(1);
        Scene.forge(x, Scene.reply(x, AA, 4, 0, 0).named("b.a", 5, "n", 1).named("w.b.a", 5, "p", 8)
            .named("w.b.a", 5, "q", 2).address("p", 7, 9));
        Check.due("one of them", x.cached(3, 5), 1);
        Check.due("nothing else", x.count(6), 1);
        Check.due("p is sought, as its address was not kept", Scene.asked(x).equals("p"), true);
        x.tick(7);
        Check.due("the life of the first", x.cached(3, 5), 1);
        x.tick(1);
        Check.due("and no longer", x.cached(3, 5), -1);
        NameSeeker y = Scene.asking(5);
        Scene.forge(y, Scene.reply(y, AA, 2, 0, 0).named("w.b.a", 5, "p", 8).named("w.b.a", 5, "q", 2));
        Check.due("of type 5 all of them", y.cached(3, 5), 2);
        NameSeeker z = Scene.asking(1);
        Scene.forge(z, Scene.reply(z, AA, 1, 1, 0).named("b.a", 5, "p", 8).soa(".", 9, 9));
        Check.due("of another name none: empty", z.result(0), 1);
        for (int code : new int[] {0, 3, AA, AA + 3}) {
            NameSeeker u = Scene.asking(1);
            Scene.forge(u, Scene.reply(u, code, 1, 2, 1).named("w.b.a", 5, "p", 8).soa(".", 9, 9)
                .named("a", 2, "m", 9).address("m", 5, 9));
            Check.due("nothing else with code " + code, u.count(6), 1);
            Check.due("the chain", u.cached(3, 5), 1);
        }
    }

    /** Terms 4: "CODE is 3 and an SOA ..; CODE is 0, with AA, and such an SOA"; "the first SOA that counts". */
    private static void replyOfAnSoa() {
        for (int code = 0; code <= 15; code++) {
            for (int aa : new int[] {0, AA}) {
                NameSeeker x = Scene.asking(1);
                Scene.forge(x, Scene.reply(x, aa + code, 0, 1, 0).soa("far.away", 9, 9));
                int want = code == 3 ? 2 : code == 0 && aa > 0 ? 1 : 3;
                Check.due("code " + code + ", aa " + aa, x.result(0), want);
                Check.due("of the name", x.cached(3, 0), want == 2 ? 0 : -1);
                Check.due("of both", x.cached(3, 1), want == 1 ? 0 : -1);
            }
        }
        NameSeeker y = Scene.asking(1);
        Scene.forge(y, Scene.reply(y, AA, 1, 3, 1).soa(".", 1, 1)
            .name(".").two(6).two(2).four(1).two(22).raw(new int[22]).soa("b.a", 8, 7).soa(".", 1, 1).soa(".", 1, 1));
        Check.due("empty", y.result(0), 1);
        y.tick(6);
        Check.due("the first of class 1 in the second section", y.cached(3, 1), 0);
        y.tick(1);
        Check.due("for seven", y.cached(3, 1), -1);
    }

    /** Terms 4: without such an SOA, or with another CODE, a referral; "else nothing". */
    private static void replyWithoutAnSoa() {
        int[][] flags = {{0, 0}, {0, 1}, {AA, 0}, {3, 0}, {AA + 3, 0}, {2, 1}, {AA + 2, 1}, {AA + 15, 1}};
        for (int[] f : flags) {
            NameSeeker x = Scene.asking(1);
            Check.Message message = Scene.reply(x, f[0], 0, 1 + f[1], 1);
            if (f[1] == 1) {
                message.soa(".", 9, 9);
            }
            Scene.forge(x, message.named("a", 2, "m", 9).address("m", 5, 9));
            Check.due("a referral of flags " + f[0] + " with " + f[1], x.cached(1, 2), 1);
            Check.due("led to", x.query(0), 5);
        }
        for (int f : new int[] {3, AA}) {
            NameSeeker x = Scene.asking(1);
            Scene.forge(x, Scene.reply(x, f, 0, 2, 1).named("a", 2, "m", 9).soa(".", 9, 9).address("m", 5, 9));
            Check.due("with one no referral", x.cached(1, 2), -1);
            Check.due("it ended", x.result(0), f == 3 ? 2 : 1);
        }
    }

    /** Terms 4: "the first one's OWNER is IN PLACE, not PLACE, and the NAME is IN it". */
    private static void referralInPlace() {
        String[] owners = {".", "a", "b.a", "w.b.a", "x.w.b.a", "c.a", "c", "b", "w"};
        for (String owner : owners) {
            NameSeeker x = Scene.asking(1);
            Scene.forge(x, Scene.reply(x, 0, 0, 1, 1).named(owner, 2, "m", 9).address("m", 5, 9));
            boolean led = owner.equals("a") || owner.equals("b.a") || owner.equals("w.b.a");
            Check.due("from the root to " + owner, x.count(6), led ? 2 : 0);
            Check.due("from the root to " + owner + " it goes", x.result(0), led ? 4 : 3);
            NameSeeker y = Scene.asking(1);
            Scene.forge(y, Scene.reply(y, 0, 0, 1, 1).named("a", 2, "n", 9).address("n", 6, 9));
            Scene.forge(y, Scene.reply(y, 0, 0, 1, 1).named(owner, 2, "m", 9).address("m", 5, 9));
            led = owner.equals("b.a") || owner.equals("w.b.a");
            Check.due("from a to " + owner, y.count(6), led ? 4 : 2);
            Check.due("from a to " + owner + " it goes", y.result(0), led ? 4 : 3);
        }
    }

    /** Terms 4: "the SET of those of that OWNER, and, of each of its DATA, the SET of its RECORDS of TYPE 1". */
    private static void referralOfTheFirstOwner() {
        NameSeeker x = Scene.asking(1);
        Scene.forge(x, Scene.reply(x, 0, 1, 4, 4).named("a", 2, "o", 9).address("a", 9, 9).named("b.a", 2, "m", 9)
            .named("a", 2, "n", 9).named("b.a", 2, "o", 9).address("n", 6, 9).number("m", 7, 9).address("o", 8, 9)
            .address("b.a", 9, 9));
        Check.due("of the first one's owner", x.cached(2, 2), 2);
        Check.due("of no other", x.cached(1, 2), -1);
        Check.due("where o is", x.cached(Check.name(x, "o"), 1), 1);
        Check.due("two sets", x.count(6), 2);
        Check.due("m is not known, so o is asked", x.query(0), 8);
        NameSeeker y = Scene.asking(1);
        Scene.forge(y, Scene.reply(y, 0, 0, 2, 0).named("c", 2, "m", 9).named("a", 2, "m", 9));
        Check.due("a first one that does not fit", y.count(6), 0);
        NameSeeker z = Scene.asking(1);
        Scene.forge(z, Scene.reply(z, 0, 0, 1, 2).named("a", 2, "m", 9).address("m", 5, 9).address(".", 6, 9));
        Check.due("the root is no host of it", z.cached(0, 1), -1);
    }

    /** Terms 4: "DATA of the first ten that are unlike", of hosts; an eleventh brings no address. */
    private static void referralOfTenHosts() {
        NameSeeker x = Scene.asking(1);
        Check.Message message = Scene.reply(x, 0, 0, 12, 11);
        for (int k = 0; k < 11; k++) {
            message.named("a", 2, "h" + (char) ('a' + k), 9);
        }
        message.named("a", 2, "ha", 9);
        for (int k = 0; k < 11; k++) {
            message.address("h" + (char) ('a' + k), 50 + k, 9);
        }
        Scene.forge(x, message);
        Check.due("ten hosts", x.cached(1, 2), 10);
        Check.due("the tenth", x.cached(Check.name(x, "hj"), 1), 1);
        Check.due("no eleventh", x.cached(Check.name(x, "hk"), 1), -1);
        Check.due("eleven sets", x.count(6), 11);
        for (int k = 0; k < 10; k++) {
            Check.due("asked", x.query(0), 50 + k);
            x.lose();
        }
        Check.due("failed", x.result(0), 3);
    }

    /** Promise 19: "without one, or if it says nothing, nothing comes: the SEEKING goes on". */
    private static void stepWithoutAServer() {
        NameSeeker x = Scene.tree();
        x.hint(99);
        x.serve(0, 0, false);
        x.ask(3, 1);
        Check.due("it says nothing", x.step(), 1);
        Check.due("the other hint", x.query(0), 99);
        Check.due("nobody is there", x.step(), 0);
        Check.due("failed", x.result(0), 3);
        Check.due("nothing is kept", x.count(6), 0);
        Check.due("two queries", x.result(4), 2);
    }

    /** Promises 19 to 22: "IllegalStateException: no QUERY is out." */
    private static void noQueryIsOut() {
        NameSeeker ended = Scene.asking(1);
        ended.lose();
        NameSeeker found = Scene.asking(1);
        Scene.forge(found, Scene.reply(found, AA, 1, 0, 0).address("w.b.a", 7, 9));
        for (NameSeeker x : new NameSeeker[] {new NameSeeker(), ended, found}) {
            Check.thrown("step", IllegalStateException.class, x::step);
            Check.thrown("lose", IllegalStateException.class, x::lose);
            Check.thrown("forge", IllegalStateException.class, x::forge);
            for (int what = -1; what <= 6; what++) {
                int w = what;
                Check.thrown("query(" + w + ")", IllegalStateException.class, () -> x.query(w));
            }
        }
    }

    /** Promise 21: "NONE, and nothing happens (but NAMES that were made), if it has a FAULT, or is none to the QUERY". */
    private static void forgeAnswersNone() {
        NameSeeker x = Scene.asking(1);
        Check.Message[] faults = {
            new Check.Message(1, REPLY, 1, 0, 0).question("w.b.a", 1),
            new Check.Message(1, REPLY, 1, 0, 0).question("w.b.a", 1).address("w.b.a", 7, 9).raw(0),
            new Check.Message(1, REPLY, 2, 0, 0).question("w.b.a", 1).address("w.b.a", 7, 9).raw(64),
            new Check.Message(1, REPLY, 2, 0, 0).question("w.b.a", 1).address("w.b.a", 7, 9).head(".", 1, 0, 0),
        };
        for (int k = 0; k < faults.length; k++) {
            Check.due("fault " + k, Scene.forge(x, faults[k]), -1);
            Check.due("out still", x.query(1), 1);
            Check.due("nothing is kept", x.count(6), 0);
        }
        Check.due("an empty tape", x.forge(), -1);
        Check.due("no name yet", x.count(0), 4);
        Check.due("another question", Scene.forge(x, new Check.Message(1, REPLY, 1, 0, 0).question("new", 1)
            .address("newer", 7, 9)), -1);
        Check.due("two names were made", x.count(0), 6);
        Check.due("one went out", x.count(7), 1);
        Scene.fillNames(x, 300);
        Check.due("no room for a name", Scene.forge(x, new Check.Message(1, REPLY, 2, 0, 0).question("w.b.a", 1)
            .address("w.b.a", 7, 9).address("none", 7, 9)), -1);
        Check.due("out still", x.query(1), 1);
        Check.due("with room", Scene.forge(x, new Check.Message(1, REPLY, 1, 0, 0).question("w.b.a", 1)
            .address("w.b.a", 7, 9)), 0);
    }

    /** Promise 21, and "a call that throws changes nothing but the TAPE, where it is used up". */
    private static void forgeWithoutAQuery() {
        NameSeeker x = Scene.asking(1);
        x.lose();
        new Check.Message(1, REPLY, 1, 0, 0).question("w.b.a", 1).address("new", 7, 9).feedTo(x);
        Check.thrown("none is out", IllegalStateException.class, x::forge);
        Check.due("used up", x.count(8), 0);
        Check.due("no name was made", x.count(0), 4);
        Check.due("nothing is kept", x.count(6), 0);
        Check.due("failed as before", x.result(0), 3);
    }

    /** Promise 22: "NoSuchElementException: another what." */
    private static void queryOfOthers() {
        NameSeeker x = Scene.asking(16);
        for (int what : new int[] {Integer.MIN_VALUE, -1, 6, Integer.MAX_VALUE}) {
            Check.thrown("query(" + what + ")", NoSuchElementException.class, () -> x.query(what));
        }
        int[] want = {1, 1, 3, 16, 1, 0};
        for (int what = 0; what < 6; what++) {
            Check.due("query(" + what + ")", x.query(what), want[what]);
        }
    }

    /** Promise 23: "NoSuchElementException: another what", in each state. */
    private static void resultOfOthers() {
        NameSeeker going = Scene.asking(1);
        NameSeeker failed = Scene.asking(1);
        failed.lose();
        for (NameSeeker x : new NameSeeker[] {new NameSeeker(), going, failed}) {
            for (int what : new int[] {Integer.MIN_VALUE, -1, 5, Integer.MAX_VALUE}) {
                Check.thrown("result(" + what + ")", NoSuchElementException.class, () -> x.result(what));
            }
        }
    }

    private static void results(String what, NameSeeker x, int... want) {
        for (int k = 0; k < 5; k++) {
            Check.due(what + ": result(" + k + ")", x.result(k), want[k]);
        }
    }

    /** Promise 23: "(1 to 3: 0 of 3, 4, 5 but CHAINS and NAME as they are of 3, 4.)" */
    private static void resultOfStates() {
        results("none", new NameSeeker(), 5, 0, 0, 0, 0);
        NameSeeker x = chain(2);
        x.ask(1, 1);
        results("going", x, 4, 0, 0, 1, 1);
        x.step();
        results("going after a chain", x, 4, 0, 1, 2, 2);
        x.step();
        x.step();
        results("found", x, 0, 1, 2, 3, 3);
        x.ask(1, 16);
        results("going again", x, 4, 0, 2, 3, 1);
        x.step();
        results("empty", x, 1, 0, 2, 3, 1);
        x.record(0, 3, 5, Check.name(x, "gone"), 9);
        x.ask(1, 2);
        x.step();
        x.step();
        results("absent", x, 2, 0, 3, 4, 2);
        x.tick(9);
        x.ask(1, 2);
        x.lose();
        results("failed", x, 3, 0, 2, 3, 1);
        Check.thrown("a call that throws begins none", IllegalArgumentException.class, () -> x.ask(1, 3));
        results("failed still", x, 3, 0, 2, 3, 1);
    }

    /** Promise 24: "0 if there is none such." */
    private static void dataNoneSuch() {
        NameSeeker x = Scene.asking(1);
        int[] odd = {Integer.MIN_VALUE, -1, 0, 1, 10, Integer.MAX_VALUE};
        for (int k : odd) {
            Check.due("none: data(" + k + ")", new NameSeeker().data(k), 0);
            Check.due("going: data(" + k + ")", x.data(k), 0);
        }
        Scene.forge(x, Scene.reply(x, AA, 1, 0, 0).address("w.b.a", 7, 9));
        for (int k : odd) {
            Check.due("found: data(" + k + ")", x.data(k), k == 0 ? 7 : 0);
        }
        x.tick(9);
        Check.due("also when its life is over", x.data(0), 7);
        x.ask(3, 1);
        Check.due("not of the seeking before", x.data(0), 0);
        x.lose();
        Check.due("nor when that failed", x.data(0), 0);
    }
}
