import java.util.function.Supplier;

/** Objects in a state that several tests begin with, and what is done with them. */
final class Scene {
    static final int REPLY = 0x8000;
    static final int AA = 0x400;
    static final int[] TYPES = {1, 2, 5, 16};

    private Scene() {
    }

    /** A root that tells of a, whose server is at 11 under ns.a; w.a has the addresses 77 and 78. */
    static NameSeeker tree() {
        NameSeeker x = new NameSeeker();
        Check.name(x, "a");
        Check.name(x, "ns.a");
        Check.name(x, "w.a");
        x.zone(0, 50);
        x.zone(1, 20);
        x.server(10);
        x.server(11);
        x.serve(0, 0, true);
        x.serve(1, 1, true);
        x.record(0, 1, 2, 2, 100);
        x.record(0, 2, 1, 11, 90);
        x.record(1, 3, 1, 77, 30);
        x.record(1, 3, 1, 78, 25);
        x.hint(10);
        return x;
    }

    /** Has a (1), b.a (2), w.b.a (3), asks for the last one and is out to the only hint, 1. */
    static NameSeeker asking(int type) {
        NameSeeker x = new NameSeeker();
        Check.name(x, "w.b.a");
        x.hint(1);
        x.ask(3, type);
        return x;
    }

    /** One server at 1, which is the hint too, of one zone, the root's, with a minimum of 50. */
    static NameSeeker rooted() {
        NameSeeker x = new NameSeeker();
        x.zone(0, 50);
        x.server(1);
        x.serve(0, 0, true);
        x.hint(1);
        return x;
    }

    /** The head and question of a reply to the QUERY that is out. */
    static Check.Message reply(NameSeeker x, int flags, int first, int second, int third) {
        Check.Message message = new Check.Message(x.query(1), REPLY + flags, first, second, third);
        return message.question(Check.textOf(x, x.query(2)), x.query(3));
    }

    static int forge(NameSeeker x, Check.Message message) {
        message.feedTo(x);
        int got = x.forge();
        Check.due("forge uses the tape up", x.count(8), 0);
        return got;
    }

    /** The TEXT of the NAME for which the QUERY that is out asks. */
    static String asked(NameSeeker x) {
        return Check.textOf(x, x.query(2));
    }

    /** The TEXT of the PLACE of the QUERY that is out. */
    static String place(NameSeeker x) {
        return Check.textOf(x, x.query(5));
    }

    /**
     * Makes NAMES till there are so many, all under LABELS that begin with a line. They come from
     * MESSAGES, six with each OWNER, as an object is used for 512 calls alone.
     */
    static void fillNames(NameSeeker x, int wanted) {
        int left = wanted - x.count(0);
        for (int part = 0; left > 0; part++) {
            Check.Message message = new Check.Message(0, 0, 0, 0, 0).question(".", 1);
            int owners = 0;
            while (left > 0 && owners < 35) {
                int labels = Math.min(6, left);
                message.head("a.b.c.d.e.".substring(0, 2 * (labels - 1)) + "-" + part + "-" + owners, 9, 0, 0);
                left -= labels;
                owners++;
            }
            message.bytes.set(7, owners);
            message.feedTo(x);
            x.parse();
        }
        Check.due("names are filled", x.count(0), wanted);
    }

    /**
     * The bytes of a TAPE from place 28 on. No call tells them, but ahead of four of them the head of
     * an address can be turned into the TAPE, which tells them as its DATA.
     */
    static int[] bytesFrom28(Supplier<NameSeeker> said) {
        int size = said.get().count(8);
        int[] bytes = new int[size - 28];
        for (int place = 28; place < size; place += 4) {
            int at = Math.min(place, size - 4);
            int four = fourAt(said.get(), at);
            for (int k = 0; k < 4; k++) {
                bytes[at - 28 + k] = four >> 24 - 8 * k & 255;
            }
        }
        return bytes;
    }

    private static int fourAt(NameSeeker x, int at) {
        Check.Message ahead = new Check.Message(0, 0, at < 39 ? 1 : 2, 0, 0);
        ahead.question(at < 39 ? "abcdefghij".substring(0, Math.max(0, at - 29)) : "", 1);
        if (at >= 39) {
            ahead.head("", 99, 0, at - 39);
        }
        int[] first = ahead.all();
        int[] head = new Check.Message(0, 0, 0, 0, 0).head("", 1, 0, 4).all();
        for (int i = 0; i < first.length; i++) {
            x.turn(i, first[i]);
        }
        for (int i = 12; i < head.length; i++) {
            x.turn(at - 23 + i, head[i]);
        }
        x.end(at + 4);
        Check.due("four bytes at " + at, x.parse(), 1);
        return x.parsed(0, 3);
    }
}
