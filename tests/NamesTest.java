import java.util.NoSuchElementException;

/** Promises 1 to 7: a new object, the TAPE and NAMES. */
public final class NamesTest {
    public static void main(String[] args) {
        newObject();
        tapeFills();
        tapeIsCut();
        tapeIsTurned();
        textsThatAreNames();
        textsThatAreNone();
        namesAreFull();
        wrongNumbers();
        Check.finish();
    }

    private static void newObject() {
        NameSeeker x = new NameSeeker();
        int[] want = {1, 0, 0, 0, 0, 0, 0, 0, 0};
        for (int what = 0; what < want.length; what++) {
            Check.due("new: count(" + what + ")", x.count(what), want[what]);
        }
        Check.due("new: result(0)", x.result(0), 5);
        for (int what = 1; what < 5; what++) {
            Check.due("new: result(" + what + ")", x.result(what), 0);
        }
        Check.due("new: data(0)", x.data(0), 0);
        Check.due("new: cached(0, 2)", x.cached(0, 2), -1);
        Check.due("new: look(0, 0)", x.look(0, 0), 0);
        Check.due("NONE", NameSeeker.NONE, -1);
        Check.thrown("new: parsed(0, 0)", NoSuchElementException.class, () -> x.parsed(0, 0));
        Check.thrown("new: query(0)", IllegalStateException.class, () -> x.query(0));
    }

    private static void tapeFills() {
        NameSeeker x = new NameSeeker();
        for (int k = 1; k <= 50; k++) {
            Check.due("feed " + k, x.feed(1, 2, 3, 4, 5), 20 * k);
        }
        Check.due("feed 51", x.feed(1, 2, 3, 4, 5), -1);
        Check.due("full tape", x.count(8), 1000);
        Check.due("end(981)", x.end(981), true);
        Check.due("feed at 981", x.feed(1, 2, 3, 4, 5), -1);
        Check.due("none came", x.count(8), 981);
        Check.due("end(980)", x.end(980), true);
        Check.due("feed at 980", x.feed(1, 2, 3, 4, 5), 1000);
        x.end(0);
        x.feed(0x61626364, 0x65666768, 0x696a2e6b, 0x6c6d6e6f, 0x70717273);
        Check.due("of each the highest byte first", Check.textOf(x, x.name()).equals("abcdefghij.klmnopqrs"), true);
    }

    private static void tapeIsCut() {
        NameSeeker x = new NameSeeker();
        Check.due("end(0) of an empty one", x.end(0), true);
        Check.due("end(1) of an empty one", x.end(1), false);
        x.feed(0x61626364, 0, 0, 0, 0);
        Check.due("end(-1)", x.end(-1), false);
        Check.due("end(21)", x.end(21), false);
        Check.due("nothing happened", x.count(8), 20);
        Check.due("end(20)", x.end(20), true);
        Check.due("end(3)", x.end(3), true);
        Check.due("three bytes", x.count(8), 3);
        Check.due("the first three", Check.textOf(x, x.name()).equals("abc"), true);
    }

    private static void tapeIsTurned() {
        NameSeeker x = new NameSeeker();
        Check.due("turn of an empty one", x.turn(0, 97), false);
        Check.feed(x, "abc");
        Check.due("turn(3)", x.turn(3, 97), false);
        Check.due("turn(-1)", x.turn(-1, 97), false);
        Check.due("turn(1)", x.turn(1, 0x7f00 + 'z'), true);
        Check.due("turn(0)", x.turn(0, 'b'), true);
        Check.due("turn(2)", x.turn(2, -256 + 'd'), true);
        Check.due("turned", Check.textOf(x, x.name()).equals("bzd"), true);
    }

    private static void textsThatAreNames() {
        NameSeeker x = new NameSeeker();
        Check.due("root", Check.name(x, "."), 0);
        Check.due("used up", x.count(8), 0);
        Check.due("those above first", Check.name(x, "a.b.c"), 3);
        Check.due("names", x.count(0), 4);
        Check.due("c", Check.name(x, "c"), 1);
        Check.due("b.c", Check.name(x, "b.c"), 2);
        Check.due("once more", Check.name(x, "a.b.c"), 3);
        Check.due("the same label elsewhere", Check.name(x, "b"), 4);
        String longest = "abcdefghij.klmnopqrst.uvwxyz0123.456789---a.b.c";
        Check.due("six labels", Check.name(x, longest), 8);
        Check.due("its labels", x.look(8, 0), 6);
        Check.due("its text", x.look(8, 2), longest.length());
        Check.due("all bytes", Check.textOf(x, 8).equals(longest), true);
        Check.due("above it", x.look(8, 1), 7);
        Check.due("above c", x.look(1, 1), 0);
        Check.due("above the root", x.look(0, 1), 0);
        Check.due("text of the root", x.look(0, 2), 1);
        Check.due("byte 0 of the root", x.text(0, 0), 46);
        Check.due("byte 1 of the root", x.text(0, 1), -1);
        Check.due("behind a text", x.text(3, 5), -1);
        Check.due("ahead of a text", x.text(3, -1), -1);
        Check.due("far behind", x.text(3, Integer.MAX_VALUE), -1);
        Check.due("last byte", x.text(3, 4), 'c');
        Check.due("a point", x.text(3, 3), '.');
        Check.due("digit alone", Check.textOf(x, Check.name(x, "0")).equals("0"), true);
        Check.due("line alone", Check.textOf(x, Check.name(x, "-")).equals("-"), true);
        Check.due("longer label", Check.name(x, "aa") != Check.name(x, "a"), true);
    }

    private static void textsThatAreNone() {
        NameSeeker x = new NameSeeker();
        String[] none = {"", "..", ".a", "a.", "a..b", "A", "a_b", "a b", "abcdefghijk", "a.b.c.d.e.f.g", "a/",
            "a:", "`", "{", "a.\u00e9"};
        for (String text : none) {
            Check.feed(x, text);
            Check.thrown("name of '" + text + "'", IllegalArgumentException.class, x::name);
            Check.due("used up by '" + text + "'", x.count(8), 0);
        }
        Check.due("none was made", x.count(0), 1);
    }

    private static void namesAreFull() {
        NameSeeker x = new NameSeeker();
        Scene.fillNames(x, 298);
        Check.feed(x, "x.y.z");
        Check.thrown("three more", UnsupportedOperationException.class, x::name);
        Check.due("none of them was made", x.count(0), 298);
        Check.due("used up", x.count(8), 0);
        Check.due("two more", Check.name(x, "y.z"), 299);
        Check.due("one that is there", Check.name(x, "z"), 298);
        Check.feed(x, "q");
        Check.thrown("the 301st", UnsupportedOperationException.class, x::name);
        Check.feed(x, "Q");
        Check.thrown("no text is told first", IllegalArgumentException.class, x::name);
        new Check.Message(0, 0, 0, 0, 0).question("q", 1).feedTo(x);
        Check.due("no room for one that is read", x.parse(), -6);
        new Check.Message(0, 0, 0, 0, 0).question("y.z", 1).feedTo(x);
        Check.due("one that is there is read", x.parse(), 0);
    }

    private static void wrongNumbers() {
        NameSeeker x = new NameSeeker();
        for (int name : new int[] {-1, 1, Integer.MAX_VALUE, Integer.MIN_VALUE}) {
            Check.thrown("look(" + name + ", 0)", IndexOutOfBoundsException.class, () -> x.look(name, 0));
            Check.thrown("look(" + name + ", 9)", IndexOutOfBoundsException.class, () -> x.look(name, 9));
            Check.thrown("text(" + name + ", 0)", IndexOutOfBoundsException.class, () -> x.text(name, 0));
        }
        Check.thrown("look(0, 3)", NoSuchElementException.class, () -> x.look(0, 3));
        Check.thrown("look(0, -1)", NoSuchElementException.class, () -> x.look(0, -1));
    }
}
