import java.util.NoSuchElementException;

/** Terms 1 and promises 1 to 7: a method for each sentence that names a boundary, told above it. */
public final class EdgesOfNamesTest {
    private static final int[] FAR = {Integer.MIN_VALUE, -1, Integer.MAX_VALUE};

    public static void main(String[] args) {
        newObject();
        feedWouldHaveMore();
        feedHighestFirst();
        endHasFewer();
        endBelowZero();
        turnNoneSuch();
        turnLowestBits();
        labelOfOneToTen();
        bytesOfLabels();
        sixLabels();
        rootIsAPoint();
        pointsBetween();
        noTextAtAll();
        textUsedUp();
        newNamesUpperFirst();
        threeHundred();
        moreThanThreeHundred();
        noTextIsToldFirst();
        lookNoSuchName();
        lookAnotherWhat();
        lookOfTheLongest();
        textNoneSuch();
        textNoSuchName();
        Check.finish();
    }

    /** Promise 1: "NAME 0; nothing else." */
    private static void newObject() {
        NameSeeker x = new NameSeeker();
        for (int what = 0; what < 9; what++) {
            Check.due("new: count " + what, x.count(what), what == 0 ? 1 : 0);
        }
        Check.due("new: the root", Check.textOf(x, 0).equals("."), true);
        Check.thrown("new: no name 1", IndexOutOfBoundsException.class, () -> x.look(1, 0));
        Check.thrown("new: no server", IndexOutOfBoundsException.class, () -> x.say(0, 0, 1));
        x.server(1);
        Check.thrown("new: no zone", IndexOutOfBoundsException.class, () -> x.serve(0, 0, true) ? 1 : 0);
        for (int type : new int[] {0, 1, 2, 5, 16}) {
            Check.due("new: cached " + type, x.cached(0, type), -1);
        }
    }

    /** Promise 2: "NONE, and none come, if it would have more than 1000." */
    private static void feedWouldHaveMore() {
        for (int stood = 979; stood <= 1000; stood++) {
            NameSeeker x = new NameSeeker();
            for (int k = 0; k < 50; k++) {
                x.feed(0, 0, 0, 0, 0);
            }
            x.end(stood);
            boolean fits = stood <= 980;
            Check.due("feed at " + stood, x.feed(1, 1, 1, 1, 1), fits ? stood + 20 : -1);
            Check.due("count at " + stood, x.count(8), fits ? stood + 20 : stood);
        }
    }

    /** Promise 2: "Twenty bytes come behind the TAPE, of each number the highest first". */
    private static void feedHighestFirst() {
        NameSeeker x = new NameSeeker();
        // A question of the root, then an address whose DATA are the bytes of -2.
        x.feed(0, 0x00010001, 0, 0x00000100, 0x01000001);
        Check.due("behind", x.feed(0x00010000, 0x00070004, -2, 0, 0), 40);
        x.end(32);
        Check.due("read", x.parse(), 1);
        Check.due("life", x.parsed(0, 4), 7);
        Check.due("a number below 0", x.parsed(0, 3), -2);
    }

    /** Promise 3: "The TAPE has its first n bytes alone: true; false, and nothing happens, if it has fewer". */
    private static void endHasFewer() {
        NameSeeker x = new NameSeeker();
        Check.due("end(0) of none", x.end(0), true);
        Check.due("end(1) of none", x.end(1), false);
        Check.feed(x, "abcde");
        Check.due("end(6) of five", x.end(6), false);
        Check.due("end(far) of five", x.end(Integer.MAX_VALUE), false);
        Check.due("five are there", x.count(8), 5);
        Check.due("end(5) of five", x.end(5), true);
        Check.due("end(2) of five", x.end(2), true);
        Check.due("end(3) of two", x.end(3), false);
        Check.due("the first two", Check.textOf(x, x.name()).equals("ab"), true);
    }

    /** Promise 3: "false, and nothing happens, if .. n is below 0". */
    private static void endBelowZero() {
        NameSeeker x = new NameSeeker();
        Check.due("end(-1) of none", x.end(-1), false);
        Check.feed(x, "abc");
        Check.due("end(-1)", x.end(-1), false);
        Check.due("end(least)", x.end(Integer.MIN_VALUE), false);
        Check.due("nothing happened", Check.textOf(x, x.name()).equals("abc"), true);
    }

    /** Promise 4: "false if there is none such." */
    private static void turnNoneSuch() {
        NameSeeker x = new NameSeeker();
        Check.due("turn(0) of none", x.turn(0, 'z'), false);
        Check.feed(x, "abc");
        for (int i : new int[] {Integer.MIN_VALUE, -1, 3, 4, 19, 1000, Integer.MAX_VALUE}) {
            Check.due("turn(" + i + ") of three", x.turn(i, 'z'), false);
        }
        Check.due("three are there", x.count(8), 3);
        Check.due("nothing happened", Check.textOf(x, x.name()).equals("abc"), true);
        Check.feed(x, "abc");
        Check.due("the first", x.turn(0, 'x'), true);
        Check.due("the last", x.turn(2, 'z'), true);
        Check.due("both turned", Check.textOf(x, x.name()).equals("xbz"), true);
    }

    /** Promise 4: "becomes v (its lowest eight bits)". */
    private static void turnLowestBits() {
        int[] odd = {'q', 'q' + 256, 'q' - 256, Integer.MIN_VALUE + 'q', 0x7fffff00 + 'q'};
        for (int v : odd) {
            NameSeeker x = new NameSeeker();
            Check.feed(x, "a");
            Check.due("turn to " + v, x.turn(0, v), true);
            Check.due("is a q", x.text(x.name(), 0), 'q');
        }
        for (int v : new int[] {127, 128, 255, 256}) {
            NameSeeker x = new NameSeeker();
            new Check.Message(0, 0, 1, 0, 0).question(".", 1).address(".", 0, 0).feedTo(x);
            x.turn(31, v);
            x.parse();
            Check.due("the byte " + v, x.parsed(0, 3), v & 255);
        }
    }

    private static boolean isName(String text) {
        NameSeeker x = new NameSeeker();
        Check.feed(x, text);
        try {
            return Check.textOf(x, x.name()).equals(text);
        } catch (IllegalArgumentException e) {
            Check.due("used up by '" + text + "'", x.count(8), 0);
            Check.due("none made by '" + text + "'", x.count(0), 1);
            return false;
        }
    }

    /** Terms 1: "a LABEL (1 to 10 bytes ..)". */
    private static void labelOfOneToTen() {
        for (int n = 0; n <= 13; n++) {
            String label = "abcdefghijklm".substring(0, n);
            boolean fits = n >= 1 && n <= 10;
            Check.due("label of " + n, isName(label), fits);
            Check.due("lower label of " + n, isName(label + ".z"), fits);
            Check.due("upper label of " + n, isName("z." + label), fits);
            Check.due("label of " + n + " between", isName("y." + label + ".z"), fits);
        }
    }

    /** Terms 1: "bytes a to z, 0 to 9, -"; all 256 are tried. */
    private static void bytesOfLabels() {
        for (int v = 0; v < 256; v++) {
            boolean fits = "abcdefghijklmnopqrstuvwxyz0123456789-".indexOf(v) >= 0;
            Check.due("byte " + v + " alone", isName("" + (char) v), fits || v == '.');
            Check.due("byte " + v + " first", isName((char) v + "x"), fits);
            Check.due("byte " + v + " last", isName("x" + (char) v), fits);
            Check.due("byte " + v + " between", isName("x" + (char) v + "y"), fits || v == '.');
        }
    }

    /** Terms 1: "at most 6 LABELS up to the root". */
    private static void sixLabels() {
        for (int n = 1; n <= 8; n++) {
            String text = "a.b.c.d.e.f.g.h".substring(0, 2 * n - 1);
            Check.due(n + " labels", isName(text), n <= 6);
        }
        NameSeeker x = new NameSeeker();
        Check.name(x, "b.c.d.e.f.g");
        Check.feed(x, "a.b.c.d.e.f.g");
        Check.thrown("one under six", IllegalArgumentException.class, x::name);
        Check.due("none came", x.count(0), 7);
    }

    /** Terms 1: "of the root a point alone". */
    private static void rootIsAPoint() {
        NameSeeker x = new NameSeeker();
        Check.due("a point", Check.name(x, "."), 0);
        Check.due("none is made", x.count(0), 1);
        Check.due("two points", isName(".."), false);
        Check.due("three points", isName("..."), false);
    }

    /** Terms 1: "its LABELS from the lowest one on, a point (46) between". */
    private static void pointsBetween() {
        Check.due("a point ahead", isName(".a"), false);
        Check.due("a point behind", isName("a."), false);
        Check.due("two points between", isName("a..b"), false);
        Check.due("six labels and a point", isName("a.b.c.d.e.f."), false);
        NameSeeker x = new NameSeeker();
        int name = Check.name(x, "low.high");
        Check.due("the lowest first", x.text(name, 0), 'l');
        Check.due("the point", x.text(name, 3), 46);
        Check.due("above it", Check.textOf(x, x.look(name, 1)).equals("high"), true);
    }

    /** Promise 5: "IllegalArgumentException: it is no TEXT"; an empty TAPE and a full one. */
    private static void noTextAtAll() {
        NameSeeker x = new NameSeeker();
        Check.thrown("nothing", IllegalArgumentException.class, x::name);
        for (int k = 0; k < 50; k++) {
            x.feed(0x61616161, 0x61616161, 0x61616161, 0x61616161, 0x61616161);
        }
        Check.thrown("a thousand letters", IllegalArgumentException.class, x::name);
        Check.due("used up", x.count(8), 0);
        for (int k = 0; k < 50; k++) {
            x.feed(0x612e612e, 0x612e612e, 0x612e612e, 0x612e612e, 0x612e612e);
        }
        Check.thrown("five hundred labels", IllegalArgumentException.class, x::name);
        Check.due("none was made", x.count(0), 1);
    }

    /** Promise 5: "Uses the TAPE up"; a call that answers. */
    private static void textUsedUp() {
        NameSeeker x = new NameSeeker();
        Check.name(x, "a.b");
        Check.due("a new one", x.count(8), 0);
        Check.name(x, "a.b");
        Check.due("one that is there", x.count(8), 0);
        Check.thrown("it is empty now", IllegalArgumentException.class, x::name);
    }

    /** Promise 5: "a new one, if it is not there; those that it is under first". */
    private static void newNamesUpperFirst() {
        NameSeeker x = new NameSeeker();
        Check.due("six at once", Check.name(x, "f.e.d.c.b.a"), 6);
        for (int n = 1; n <= 6; n++) {
            Check.due("labels of " + n, x.look(n, 0), n);
            Check.due("above " + n, x.look(n, 1), n - 1);
        }
        Check.due("one that is there", Check.name(x, "c.b.a"), 3);
        Check.due("half of it is there", Check.name(x, "y.x.b.a"), 8);
        Check.due("half was", x.look(7, 1), 2);
        Check.due("the same label elsewhere", Check.name(x, "a.a"), 9);
        Check.due("ten in all", x.count(0), 10);
    }

    /** Terms 1: "NAMES are numbered from 0 on (at most 300)". */
    private static void threeHundred() {
        NameSeeker x = new NameSeeker();
        Scene.fillNames(x, 299);
        Check.due("the 300th", Check.name(x, "last"), 299);
        Check.due("300", x.count(0), 300);
        Check.due("it is there", Check.textOf(x, 299).equals("last"), true);
        Check.due("once more", Check.name(x, "last"), 299);
        Check.thrown("no 300", IndexOutOfBoundsException.class, () -> x.look(300, 0));
    }

    /** Promise 5: "UnsupportedOperationException: there would be more than 300." */
    private static void moreThanThreeHundred() {
        for (int room = 0; room <= 3; room++) {
            NameSeeker x = new NameSeeker();
            Scene.fillNames(x, 300 - room);
            Check.feed(x, "p.q.r");
            if (room < 3) {
                Check.thrown("room for " + room, UnsupportedOperationException.class, x::name);
                Check.due("none of the three came", x.count(0), 300 - room);
                Check.due("used up", x.count(8), 0);
            } else {
                Check.due("room for three", x.name(), 299);
            }
        }
        NameSeeker y = new NameSeeker();
        Check.name(y, "q.r");
        Scene.fillNames(y, 299);
        Check.due("one of three is new", Check.name(y, "p.q.r"), 299);
    }

    /** "Of several exceptions the one told first is thrown"; of name() with no room. */
    private static void noTextIsToldFirst() {
        NameSeeker x = new NameSeeker();
        Scene.fillNames(x, 300);
        Check.feed(x, "new.Bad");
        Check.thrown("no text, no room", IllegalArgumentException.class, x::name);
        Check.feed(x, "new.good");
        Check.thrown("a text, no room", UnsupportedOperationException.class, x::name);
    }

    /** Promise 6, and "IndexOutOfBoundsException: there is no such NAME". */
    private static void lookNoSuchName() {
        NameSeeker x = new NameSeeker();
        Check.name(x, "a");
        for (int what = -1; what <= 3; what++) {
            int w = what;
            for (int name : FAR) {
                Check.thrown("look(" + name + ", " + w + ")", IndexOutOfBoundsException.class, () -> x.look(name, w));
            }
            Check.thrown("look(2, " + w + ")", IndexOutOfBoundsException.class, () -> x.look(2, w));
        }
        Check.due("the last one", x.look(1, 0), 1);
    }

    /** Promise 6: "NoSuchElementException: another what." */
    private static void lookAnotherWhat() {
        NameSeeker x = new NameSeeker();
        for (int what : new int[] {Integer.MIN_VALUE, -1, 3, Integer.MAX_VALUE}) {
            Check.thrown("look(0, " + what + ")", NoSuchElementException.class, () -> x.look(0, what));
        }
    }

    /** Promise 6: "what 0 how many LABELS, 1 the NAME that it is under (0 of the root), 2 how many bytes". */
    private static void lookOfTheLongest() {
        NameSeeker x = new NameSeeker();
        String longest = "aaaaaaaaaa.bbbbbbbbbb.cccccccccc.dddddddddd.eeeeeeeeee.ffffffffff";
        int name = Check.name(x, longest);
        Check.due("labels", x.look(name, 0), 6);
        Check.due("above", x.look(name, 1), 5);
        Check.due("bytes", x.look(name, 2), 65);
        Check.due("all of them", Check.textOf(x, name).equals(longest), true);
        Check.due("the last", x.text(name, 64), 'f');
        Check.due("behind it", x.text(name, 65), -1);
        int[] root = {0, 0, 1};
        for (int what = 0; what < 3; what++) {
            Check.due("look(0, " + what + ")", x.look(0, what), root[what]);
        }
        Check.due("a label alone", x.look(1, 2), 10);
        Check.due("is under the root", x.look(1, 1), 0);
    }

    /** Promise 7: "NONE if there is none such." */
    private static void textNoneSuch() {
        NameSeeker x = new NameSeeker();
        Check.name(x, "ab.c");
        for (int i : FAR) {
            Check.due("root, " + i, x.text(0, i), -1);
            Check.due("ab.c, " + i, x.text(2, i), -1);
        }
        Check.due("root, 0", x.text(0, 0), 46);
        Check.due("root, 1", x.text(0, 1), -1);
        Check.due("ab.c, 3", x.text(2, 3), 'c');
        Check.due("ab.c, 4", x.text(2, 4), -1);
        Check.due("c, 0", x.text(1, 0), 'c');
        Check.due("c, 1", x.text(1, 1), -1);
    }

    /** Promise 7, and "IndexOutOfBoundsException: there is no such NAME". */
    private static void textNoSuchName() {
        NameSeeker x = new NameSeeker();
        Check.name(x, "a");
        for (int name : new int[] {Integer.MIN_VALUE, -1, 2, 300, Integer.MAX_VALUE}) {
            Check.thrown("text(" + name + ", 0)", IndexOutOfBoundsException.class, () -> x.text(name, 0));
            Check.thrown("text(" + name + ", -1)", IndexOutOfBoundsException.class, () -> x.text(name, -1));
        }
    }
}
