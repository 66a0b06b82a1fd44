import java.util.NoSuchElementException;

/** Promises 14 and 15: reading MESSAGES. */
public final class ParseTest {
    private static final int LEAD = 0xc0;

    public static void main(String[] args) {
        heads();
        questionNames();
        leads();
        tooEarly();
        data();
        bytesBehind();
        whatCounts();
        whatIsParsed();
        namesAreMade();
        namesRunOut();
        Check.finish();
    }

    private static Check.Message message(int first, int second, int third) {
        return new Check.Message(0, 0, first, second, third);
    }

    private static void faulty(String what, Check.Message message, int want) {
        NameSeeker x = new NameSeeker();
        message.feedTo(x);
        Check.due(what, x.parse(), want);
        Check.due(what + ": used up", x.count(8), 0);
    }

    private static void heads() {
        NameSeeker x = new NameSeeker();
        Check.due("nothing", x.parse(), -1);
        Check.feed(x, 0, 0, 0, 0, 0, 1, 0, 0, 0, 0, 0);
        Check.due("eleven bytes", x.parse(), -1);
        Check.feed(x, 0, 0, 0, 0, 0, 1, 0, 0, 0, 0, 0, 0);
        Check.due("twelve bytes", x.parse(), -3);
        for (int first : new int[] {0, 2, 256, 257}) {
            Check.feed(x, 0, 0, 0, 0, first >> 8, first, 0, 0, 0, 0, 0, 0, 0, 0, 1, 0, 1);
            Check.due(first + " questions", x.parse(), -1);
        }
        Check.feed(x, 9, 9, 9, 9, 0, 1, 0, 0, 0, 0, 0, 0, 0, 9, 9, 9, 9);
        Check.due("any id, flags, type and class", x.parse(), 0);
    }

    private static void questionNames() {
        faulty("a byte of 64", message(0, 0, 0).raw(64, 'a', 0).four(0), -2);
        faulty("a byte of 191", message(0, 0, 0).raw(191, 'a', 0).four(0), -2);
        faulty("a label of 11", message(0, 0, 0).question("abcdefghijk", 1), -2);
        faulty("a label of 63", message(0, 0, 0).raw(63), -2);
        faulty("a label of 10", message(0, 0, 0).question("abcdefghij", 1), 0);
        faulty("six labels", message(0, 0, 0).question("a.b.c.d.e.f", 1), 0);
        faulty("seven labels", message(0, 0, 0).question("a.b.c.d.e.f.g", 1), -2);
        faulty("a large letter", message(0, 0, 0).question("aB", 1), -2);
        faulty("a point in a label", message(0, 0, 0).raw(3, 'a', '.', 'b', 0).four(0), -2);
        faulty("all kinds of letters", message(0, 0, 0).question("-0z9a", 1), 0);
        faulty("a wrong byte ahead of the end", message(0, 0, 0).raw(5, 'a', '!'), -2);
        faulty("the end in a label", message(0, 0, 0).raw(5, 'a'), -3);
        faulty("the end behind a label", message(0, 0, 0).raw(1, 'a'), -3);
        faulty("the end in a lead", message(0, 0, 0).raw(LEAD), -3);
        faulty("the end in the question", message(0, 0, 0).raw(0, 0, 1, 0), -3);
    }

    private static void leads() {
        faulty("to itself", message(0, 0, 0).raw(LEAD, 12).four(0), -2);
        faulty("ahead", message(0, 0, 0).raw(LEAD, 14).four(0), -2);
        faulty("far ahead", message(0, 0, 0).raw(255, 255).four(0), -2);
        faulty("into its own beginning", message(0, 0, 0).raw(1, 'a', LEAD, 12).four(0), -2);
        faulty("into the head", message(0, 0, 0).raw(LEAD, 0).four(0), 0);
        faulty("below by one", message(0, 0, 0).raw(LEAD, 11).four(0), 0);
        Check.Message twice = message(2, 0, 0).question("a", 1)
            .raw(1, 'b', LEAD, 12).two(1).two(1).four(1).two(4).four(7)
            .raw(1, 'c', LEAD, 19).two(1).two(1).four(1).two(4).four(8);
        NameSeeker x = new NameSeeker();
        twice.feedTo(x);
        Check.due("a lead to a lead", x.parse(), 2);
        Check.due("c.b.a", Check.textOf(x, x.parsed(1, 1)).equals("c.b.a"), true);
        // The part at 31 leads to 33, which is below where the NAME begins but not where the part does.
        Check.Message up = message(2, 0, 0).question("a", 1)
            .raw(LEAD, 12).two(9).two(1).four(1).two(4).raw(LEAD, 33, 1, 'x')
            .raw(LEAD, 31).two(9).two(1).four(1).two(0);
        faulty("a part that leads up", up, -2);
        Check.Message seven = message(1, 0, 0).question("a.b.c.d", 1)
            .raw(1, 'x', 1, 'y', 1, 'z', LEAD, 12).two(1).two(1).four(1).two(4).four(7);
        faulty("seven labels by a lead", seven, -2);
        Check.Message six = message(1, 0, 0).question("a.b.c.d", 1)
            .raw(1, 'x', 1, 'y', LEAD, 12).two(1).two(1).four(1).two(4).four(7);
        faulty("six labels by a lead", six, 1);
    }

    private static void tooEarly() {
        int[] whole = message(1, 0, 0).question("a", 1).address("b", 5, 6).all();
        for (int n = 12; n < whole.length; n++) {
            NameSeeker x = new NameSeeker();
            Check.feed(x, whole);
            x.end(n);
            Check.due("cut to " + n, x.parse(), -3);
        }
        faulty("a record that is not there", message(1, 0, 0).question("a", 1), -3);
        faulty("data beyond the end are told ahead of their length",
            message(1, 0, 0).question("a", 1).head("a", 1, 1, 5).four(0), -3);
        faulty("data of other types beyond the end", message(0, 0, 1).question("a", 1).head("a", 99, 1, 1), -3);
        faulty("a wrong name in data beyond the end",
            message(0, 1, 0).question("a", 1).head("a", 2, 1, 3).raw(64, 64), -3);
        faulty("65535 records", message(65535, 65535, 65535).question("a", 1).address("b", 5, 6), -3);
    }

    private static void data() {
        faulty("an address of 3", message(1, 0, 0).question("a", 1).head("a", 1, 1, 3).raw(1, 2, 3), -4);
        faulty("an address of 5", message(1, 0, 0).question("a", 1).head("a", 1, 1, 5).raw(1, 2, 3, 4, 5), -4);
        faulty("an address of 0", message(1, 0, 0).question("a", 1).head("a", 1, 1, 0), -4);
        faulty("a number of 4", message(1, 0, 0).question("a", 1).head("a", 16, 1, 4).raw(4, 2, 3, 4), -4);
        faulty("a number of 6", message(1, 0, 0).question("a", 1).head("a", 16, 1, 6).raw(4, 2, 3, 4, 5, 6), -4);
        faulty("a number behind a 3", message(1, 0, 0).question("a", 1).head("a", 16, 1, 5).raw(3, 2, 3, 4, 5), -4);
        faulty("a number behind a 4", message(1, 0, 0).question("a", 1).head("a", 16, 1, 5).raw(4, 2, 3, 4, 5), 1);
        faulty("an SOA of 21", message(1, 0, 0).question("a", 1).head("a", 6, 1, 21).raw(new int[21]), -4);
        faulty("an SOA of 22", message(1, 0, 0).question("a", 1).head("a", 6, 1, 22).raw(new int[22]), 1);
        faulty("an SOA of 23", message(1, 0, 0).question("a", 1).head("a", 6, 1, 23).raw(new int[23]), -4);
        faulty("an SOA without its roots", message(1, 0, 0).question("a", 1).head("a", 6, 1, 22).raw(64)
            .raw(new int[21]), -4);
        for (int type : new int[] {2, 5}) {
            faulty("a name", message(1, 0, 0).question("a", 1).head("a", type, 1, 3).raw(1, 'b', 0), 1);
            faulty("a name by a lead", message(1, 0, 0).question("a", 1).head("a", type, 1, 2).raw(LEAD, 12), 1);
            faulty("no name", message(1, 0, 0).question("a", 1).head("a", type, 1, 0), -4);
            faulty("a short name", message(1, 0, 0).question("a", 1).head("a", type, 1, 4).raw(1, 'b', 0, 0), -4);
            faulty("a long name", message(1, 0, 0).question("a", 1).head("a", type, 1, 2).raw(1, 'b', 0), -4);
            faulty("a wrong name", message(1, 0, 0).question("a", 1).head("a", type, 1, 3).raw(1, 'B', 0), -4);
            faulty("a name that has no end", message(1, 0, 0).question("a", 1).head("a", type, 1, 2).raw(1, 'b'), -4);
            faulty("a name led to itself", message(1, 0, 0).question("a", 1).head("a", type, 1, 2).raw(LEAD, 32), -4);
        }
        faulty("of whatever class", message(1, 0, 0).question("a", 1).name("a").two(1).two(9).four(1).two(3)
            .raw(1, 2, 3), -4);
        faulty("other types have any bytes", message(1, 0, 0).question("a", 1).head("a", 28, 1, 3).raw(64, 64, 64), 0);
        faulty("or none", message(1, 0, 0).question("a", 1).head("a", 28, 1, 0), 0);
        faulty("the owner is told ahead", message(1, 0, 0).question("a", 1).head("A", 1, 1, 3).raw(1, 2, 3), -2);
    }

    private static void bytesBehind() {
        faulty("one byte", message(0, 0, 0).question("a", 1).raw(0), -5);
        faulty("a record too many", message(0, 0, 0).question("a", 1).address("a", 1, 1), -5);
        faulty("none", message(1, 0, 0).question("a", 1).address("a", 1, 1), 1);
    }

    private static void whatCounts() {
        NameSeeker x = new NameSeeker();
        message(3, 2, 2).question("q", 1)
            .address("a", 1, 1).name("b").two(1).two(3).four(1).two(4).four(9).named("c", 2, "d", 2)
            .soa("e", 3, 4).head("f", 41, 1, 2).two(7)
            .number("g", -5, 0xffffffffL).named("h", 5, ".", 0x80000000L).feedTo(x);
        Check.due("five of seven", x.parse(), 5);
        String[] owners = {"a", "c", "e", "g", "h"};
        int[] sections = {0, 0, 1, 2, 2};
        int[] types = {1, 2, 6, 16, 5};
        int[] lives = {1, 2, 3, -1, Integer.MIN_VALUE};
        for (int k = 0; k < 5; k++) {
            Check.due("section " + k, x.parsed(k, 0), sections[k]);
            Check.due("owner " + k, Check.textOf(x, x.parsed(k, 1)).equals(owners[k]), true);
            Check.due("type " + k, x.parsed(k, 2), types[k]);
            Check.due("life " + k, x.parsed(k, 4), lives[k]);
        }
        int[] data = {1, Check.name(x, "d"), 4, -5, 0};
        for (int k = 0; k < 5; k++) {
            Check.due("data " + k, x.parsed(k, 3), data[k]);
        }
    }

    private static void whatIsParsed() {
        NameSeeker x = new NameSeeker();
        message(1, 0, 0).question("a", 1).address("a", 5, 6).feedTo(x);
        x.parse();
        Check.thrown("behind the last", NoSuchElementException.class, () -> x.parsed(1, 0));
        Check.thrown("ahead of the first", NoSuchElementException.class, () -> x.parsed(-1, 0));
        Check.thrown("what 5", NoSuchElementException.class, () -> x.parsed(0, 5));
        Check.thrown("what -1", NoSuchElementException.class, () -> x.parsed(0, -1));
        message(2, 0, 0).question("a", 1).address("b", 7, 8).feedTo(x);
        Check.due("a fault", x.parse(), -3);
        Check.due("leaves the one before", x.parsed(0, 3), 5);
        message(1, 0, 0).question("a", 1).address("b", 7, 8).feedTo(x);
        x.parse();
        Check.due("the latest", x.parsed(0, 3), 7);
        x.hint(1);
        x.ask(1, 16);
        new Check.Message(1, 0x8000, 1, 0, 0).question("a", 16).number("a", 99, 9).feedTo(x);
        Check.due("forged", x.forge(), 0);
        Check.due("is no parse", x.parsed(0, 3), 7);
        message(0, 0, 0).question("a", 1).feedTo(x);
        Check.due("without records", x.parse(), 0);
        Check.thrown("none is there", NoSuchElementException.class, () -> x.parsed(0, 0));
        Check.Message many = message(81, 0, 0).question(".", 1);
        for (int k = 0; k < 81; k++) {
            many.named(".", 2, ".", k);
        }
        many.feedTo(x);
        Check.due("as many as there can be", x.parse(), 81);
        Check.due("the last of these", x.parsed(80, 4), 80);
    }

    private static void namesAreMade() {
        NameSeeker x = new NameSeeker();
        message(1, 0, 0).question("b.a", 1).head("d.c", 5, 1, 7).raw(1, 'f', 1, 'e', 0, 0, 0).feedTo(x);
        Check.due("a wrong end", x.parse(), -4);
        String[] made = {".", "a", "b.a", "c", "d.c", "e", "f.e"};
        Check.due("made whatever is wrong behind them", x.count(0), made.length);
        for (int n = 1; n < made.length; n++) {
            Check.due("from the root down: " + made[n], Check.name(x, made[n]), n);
        }
        message(0, 0, 0).raw(1, 'g', 1, 'H', 0).feedTo(x);
        Check.due("a wrong name", x.parse(), -2);
        Check.due("is not made", x.count(0), made.length);
        Check.feed(x, 0, 0, 0, 0, 0, 2, 0, 0, 0, 0, 0, 0, 1, 'g', 0, 0, 1, 0, 1);
        Check.due("a wrong head", x.parse(), -1);
        Check.due("nothing is read", x.count(0), made.length);
    }

    private static void namesRunOut() {
        NameSeeker x = new NameSeeker();
        Scene.fillNames(x, 298);
        message(1, 0, 0).question(".", 1).head(".", 2, 1, 7).raw(1, 'x', 1, 'y', 1, 'z', 0).feedTo(x);
        Check.due("no room, in data too", x.parse(), -6);
        Check.due("but for those that had it", x.count(0), 300);
        Check.due("z", Check.name(x, "z"), 298);
        Check.due("y.z", Check.name(x, "y.z"), 299);
        message(1, 0, 0).question(".", 1).address("q", 1, 1).feedTo(x);
        Check.due("no room for an owner", x.parse(), -6);
        message(0, 0, 0).raw(1, 'q', 0).feedTo(x);
        Check.due("ahead of what is behind", x.parse(), -6);
        message(0, 0, 0).raw(1, 'q', 64).feedTo(x);
        Check.due("a wrong one is not made", x.parse(), -2);
        message(0, 0, 0).question("y.z", 1).feedTo(x);
        Check.due("those that are there", x.parse(), 0);
    }
}
