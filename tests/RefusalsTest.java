import java.util.NoSuchElementException;

/**
 * "A call that throws changes nothing but the TAPE, where it is used up": of two objects that went the
 * same way one makes a call that is refused, and behind it both tell the same of all that can be seen.
 */
public final class RefusalsTest {
    interface Doing {
        long on(NameSeeker x);
    }

    interface Making {
        NameSeeker made();
    }

    public static void main(String[] args) {
        Making[] states = {RefusalsTest::still, RefusalsTest::going, RefusalsTest::deep, RefusalsTest::full};
        for (int k = 0; k < states.length; k++) {
            boolean going = k == 1 || k == 2;
            numbers("state " + k, states[k]);
            arguments("state " + k, states[k]);
            whats("state " + k, states[k], going);
            queries("state " + k, states[k], going);
            tape("state " + k, states[k]);
            answersThatRefuse("state " + k, states[k]);
        }
        limits();
        Check.finish();
    }

    /** A SEEKING has ended, a MESSAGE was parsed, and the CACHE has something. */
    private static NameSeeker still() {
        NameSeeker x = Scene.tree();
        x.say(1, 3, 1);
        x.parse();
        x.tick(3);
        x.ask(3, 1);
        x.step();
        x.step();
        Check.feed(x, "text");
        return x;
    }

    /** A QUERY of a second SEEKING is out. */
    private static NameSeeker going() {
        NameSeeker x = still();
        x.ask(2, 16);
        return x;
    }

    /** A QUERY of a second FRAME is out, behind a chain of the first one. */
    private static NameSeeker deep() {
        NameSeeker x = Scene.tree();
        x.record(1, 3, 5, Check.name(x, "b"), 40);
        x.record(0, 4, 2, Check.name(x, "c"), 40);
        x.ask(3, 1);
        x.step();
        x.step();
        x.step();
        Check.due("two frames", x.query(4), 2);
        Check.due("a chain", x.result(2), 1);
        Check.feed(x, "text");
        return x;
    }

    /** NAMES, ZONES, SERVERS, HINTS and RECORDS are as many as there may be. */
    private static NameSeeker full() {
        NameSeeker x = Scene.tree();
        Scene.fillNames(x, 300);
        for (int k = 2; k < 12; k++) {
            x.zone(k, 9);
            x.server(100 + k);
        }
        for (int k = 4; k < 150; k++) {
            x.record(0, 0, 16, k, 9);
        }
        for (int k = 1; k < 4; k++) {
            x.hint(200 + k);
        }
        Check.feed(x, "text");
        return x;
    }

    private static void refused(String what, Class<? extends RuntimeException> want, Making state, Doing call,
            boolean usesUp) {
        NameSeeker x = state.made();
        NameSeeker y = state.made();
        Check.thrown(what, want, () -> call.on(x));
        if (usesUp) {
            y.end(0);
        }
        same(what, x, y);
    }

    private static void same(String what, NameSeeker x, NameSeeker y) {
        String got = seen(x);
        String want = seen(y);
        Check.due(what + " changed nothing:\n" + got + "\n" + want + "\n", got.equals(want), true);
    }

    private static void tell(StringBuilder all, Check.Call call) {
        try {
            all.append(call.run()).append(' ');
        } catch (RuntimeException e) {
            all.append(e.getClass().getSimpleName()).append(' ');
        }
    }

    /** All that can be seen of few NAMES, the TAPE and what is said last, as these change. */
    private static String seen(NameSeeker x) {
        StringBuilder all = new StringBuilder();
        int names = Math.min(6, x.count(0));
        for (int k = 0; k <= 8; k++) {
            int what = k;
            tell(all, () -> x.count(what));
            tell(all, () -> x.result(what));
            tell(all, () -> x.query(what));
            tell(all, () -> x.data(what));
        }
        all.append("names ");
        for (int n = 0; n < names; n++) {
            all.append(Check.textOf(x, n)).append(' ');
            for (int type : new int[] {0, 1, 2, 5, 16}) {
                int name = n;
                tell(all, () -> x.cached(name, type));
            }
        }
        all.append("parsed ");
        for (int k = 0; k < 15; k++) {
            int r = k;
            tell(all, () -> x.parsed(r / 5, r % 5));
        }
        all.append("tape ");
        tell(all, x::name);
        for (int n = 0; n < names; n++) {
            for (int s = 0; s < 4; s++) {
                int name = n;
                int server = s / 2;
                tell(all, () -> x.say(server, name, 1));
                tell(all, x::parse);
            }
        }
        for (int z = 0; z < Math.min(2, x.count(1)); z++) {
            for (int n = 0; n < names; n++) {
                int zone = z;
                int name = n;
                tell(all, () -> x.drop(zone, name, 1) + 10 * x.drop(zone, name, 16));
            }
        }
        return all.toString();
    }

    private static void numbers(String state, Making made) {
        int far = 300;
        for (int no : new int[] {-1, far, Integer.MAX_VALUE, Integer.MIN_VALUE}) {
            Class<? extends RuntimeException> out = IndexOutOfBoundsException.class;
            String with = state + " with " + no + ": ";
            refused(with + "look", out, made, x -> x.look(no, 0), false);
            refused(with + "text", out, made, x -> x.text(no, 0), false);
            refused(with + "zone", out, made, x -> x.zone(no, 1), false);
            refused(with + "record of a zone", out, made, x -> x.record(no, 0, 1, 1, 1), false);
            refused(with + "record of an owner", out, made, x -> x.record(0, no, 1, 1, 1), false);
            refused(with + "drop of a zone", out, made, x -> x.drop(no, 0, 16), false);
            refused(with + "drop of an owner", out, made, x -> x.drop(0, no, 16), false);
            refused(with + "serve of a server", out, made, x -> x.serve(no, 0, true) ? 1 : 0, false);
            refused(with + "serve of a zone", out, made, x -> x.serve(0, no, true) ? 1 : 0, false);
            refused(with + "say of a server", out, made, x -> x.say(no, 0, 1), false);
            refused(with + "say of a name", out, made, x -> x.say(0, no, 1), false);
            refused(with + "ask", out, made, x -> x.ask(no, 1), false);
            refused(with + "cached", out, made, x -> x.cached(no, 1), false);
        }
    }

    private static void arguments(String state, Making made) {
        Class<? extends RuntimeException> no = IllegalArgumentException.class;
        refused(state + ": zone of a minimum", no, made, x -> x.zone(3, 0), false);
        refused(state + ": zone of an apex", no, made, x -> x.zone(1, 5), false);
        refused(state + ": record of an owner", no, made, x -> x.record(1, 0, 1, 1, 1), false);
        refused(state + ": record of a type", no, made, x -> x.record(0, 0, 6, 1, 1), false);
        refused(state + ": record of a life", no, made, x -> x.record(0, 0, 1, 1, 100001), false);
        refused(state + ": record of a name", no, made, x -> x.record(0, 0, 2, 300, 1), false);
        refused(state + ": server", no, made, x -> x.server(10), false);
        refused(state + ": tick back", no, made, x -> x.tick(-1), false);
        refused(state + ": tick far", no, made, x -> x.tick(100001), false);
    }

    private static void whats(String state, Making made, boolean going) {
        Class<? extends RuntimeException> no = NoSuchElementException.class;
        refused(state + ": look", no, made, x -> x.look(0, 3), false);
        refused(state + ": parsed", no, made, x -> x.parsed(2, 0), false);
        refused(state + ": parsed what", no, made, x -> x.parsed(0, 5), false);
        refused(state + ": result", no, made, x -> x.result(5), false);
        refused(state + ": query", going ? no : IllegalStateException.class, made, x -> x.query(6), false);
    }

    private static void queries(String state, Making made, boolean going) {
        Class<? extends RuntimeException> no = IllegalStateException.class;
        if (going) {
            refused(state + ": ask", no, made, x -> x.ask(3, 1), false);
            refused(state + ": ask of no type", no, made, x -> x.ask(3, 6), false);
        } else {
            refused(state + ": ask of no type", IllegalArgumentException.class, made, x -> x.ask(3, 6), false);
            refused(state + ": step", no, made, NameSeeker::step, false);
            refused(state + ": lose", no, made, NameSeeker::lose, false);
            refused(state + ": forge", no, made, NameSeeker::forge, true);
        }
    }

    /** A TEXT that is none is used up; of a full object one that is new, too. */
    private static void tape(String state, Making made) {
        Making wrong = () -> {
            NameSeeker x = made.made();
            x.turn(0, 'T');
            return x;
        };
        refused(state + ": no text", IllegalArgumentException.class, wrong, NameSeeker::name, true);
        Making empty = () -> {
            NameSeeker x = made.made();
            x.end(0);
            return x;
        };
        refused(state + ": nothing", IllegalArgumentException.class, empty, NameSeeker::name, true);
    }

    /** Calls that tell by their answer that nothing happens. */
    private static void answersThatRefuse(String state, Making made) {
        Doing[] calls = {x -> x.end(-1) ? 1 : 0, x -> x.end(5) ? 1 : 0, x -> x.turn(-1, 1) ? 1 : 0,
            x -> x.turn(4, 1) ? 1 : 0, x -> x.serve(0, 0, true) ? 1 : 0, x -> x.serve(0, 1, false) ? 1 : 0,
            x -> x.drop(0, 3, 5), x -> x.count(9) + 1, x -> x.data(99), x -> x.text(0, 1) + 1};
        for (int k = 0; k < calls.length; k++) {
            NameSeeker x = made.made();
            Check.due(state + ": call " + k, calls[k].on(x), 0);
            same(state + ": call " + k, x, made.made());
        }
    }

    private static void limits() {
        Class<? extends RuntimeException> no = UnsupportedOperationException.class;
        Making full = RefusalsTest::full;
        refused("the 301st name", no, full, NameSeeker::name, true);
        refused("the 13th zone", no, full, x -> x.zone(12, 9), false);
        refused("the 151st record", no, full, x -> x.record(0, 0, 1, 1, 1), false);
        refused("the 13th server", no, full, x -> x.server(1), false);
        NameSeeker x = full();
        Check.due("a fifth hint", x.hint(5), -1);
        same("a fifth hint", x, full());
        Making wide = () -> {
            NameSeeker y = Scene.tree();
            for (int k = 0; k < 50; k++) {
                y.feed(k, k, k, k, k);
            }
            return y;
        };
        NameSeeker z = wide.made();
        Check.due("a full tape", z.feed(1, 1, 1, 1, 1), -1);
        same("a full tape", z, wide.made());
        Making almost = () -> {
            NameSeeker y = Scene.tree();
            Scene.fillNames(y, 299);
            Check.feed(y, "two.more");
            return y;
        };
        refused("two more than there is room for", no, almost, NameSeeker::name, true);
    }
}
