import java.util.Arrays;
import java.util.NoSuchElementException;

/** Terms 3 and promises 14 and 15: a method for each sentence that names a boundary, told above it. */
public final class EdgesOfReadingTest {
    private static final int LEAD = 0xc0;
    private static final int[] KNOWN = {1, 2, 5, 16, 6};

    public static void main(String[] args) {
        fewerThanTwelve();
        firstCount();
        bytesOf64To191();
        placesBelow();
        placesOfParts();
        placesOfTwoBytes();
        longLabels();
        otherBytes();
        moreThanSixLabels();
        firstFaultAlongTheBytes();
        endsTooEarly();
        recordsThatAreNotThere();
        dataBeyondTheEnd();
        lengthOfAddresses();
        lengthOfNumbers();
        lengthOfSoas();
        lengthOfOthers();
        namesInData();
        endOfNamesInData();
        whateverClass();
        bytesBehind();
        namesAreMade();
        wrongNamesAreNotMade();
        the301st();
        the301stComesFirst();
        whatCounts();
        countOfMost();
        lifeGoesRound();
        soaLastNumber();
        parseUsesUp();
        parsedNoneSuch();
        parsedAnotherWhat();
        parsedOfTheLatest();
        Check.finish();
    }

    private static Check.Message message(int first, int second, int third) {
        return new Check.Message(0, 0, first, second, third);
    }

    private static int parse(Check.Message message) {
        NameSeeker x = new NameSeeker();
        message.feedTo(x);
        return x.parse();
    }

    /** A question of a NAME in these bytes. */
    private static int question(int... name) {
        return parse(message(0, 0, 0).raw(name).four(0));
    }

    /** Terms 3: "1: fewer than 12 bytes". */
    private static void fewerThanTwelve() {
        for (int n = 0; n <= 12; n++) {
            NameSeeker x = new NameSeeker();
            message(0, 0, 0).feedTo(x);
            x.end(n);
            Check.due(n + " bytes", x.parse(), n < 12 ? -1 : -3);
        }
    }

    /** Terms 3: "the first count is not 1". */
    private static void firstCount() {
        for (int high : new int[] {0, 1, 255}) {
            for (int low = 0; low < 256; low++) {
                NameSeeker x = new NameSeeker();
                message(0, 0, 0).question(".", 1).feedTo(x);
                x.turn(4, high);
                x.turn(5, low);
                Check.due("first count " + high + " " + low, x.parse(), high == 0 && low == 1 ? 0 : -1);
            }
        }
    }

    /** Terms 3: "a byte of 64 to 191"; all lengths and leads are tried. */
    private static void bytesOf64To191() {
        for (int v = 0; v < 256; v++) {
            int[] name = new int[12];
            Arrays.fill(name, 'a');
            name[0] = v;
            // A lead of 192 goes to 97, which is ahead, as are all others.
            int want = v >= 1 && v <= 10 ? 0 : -2;
            if (v == 0) {
                Check.due("byte 0", question(0), 0);
            } else {
                if (v <= 10) {
                    name = Arrays.copyOf(name, v + 2);
                    name[v + 1] = 0;
                }
                Check.due("byte " + v, question(name), want);
            }
        }
        for (int v = 0; v < 256; v++) {
            // Of a byte behind which there is nothing the first FAULT is that of the byte itself.
            Check.due("byte " + v + " at the end", parse(message(0, 0, 0).raw(v)), v > 10 && v < 192 ? -2 : -3);
        }
        Check.due("64 behind a label", question(1, 'a', 64), -2);
        Check.due("191 behind a label", question(1, 'a', 191), -2);
        Check.due("192 behind a label", question(1, 'a', 192, 0), 0);
    }

    /** Terms 3: "a place that is not below where this NAME .. begins". */
    private static void placesBelow() {
        for (int place = 0; place < 256; place++) {
            Check.due("place " + place, question(LEAD, place), leadIntoHead(place));
            Check.due("place " + place + " behind a label", question(1, 'x', LEAD, place), leadIntoHead(place));
        }
        // A second NAME begins at 17; a root is at 12.
        for (int place = 0; place < 30; place++) {
            int got = parse(message(1, 0, 0).question(".", 1).raw(LEAD, place).two(9).two(1).four(0).two(0));
            boolean above = place >= 17;
            // At 5, 7, 14 and 16 a LABEL of one byte begins, which is 0.
            boolean odd = place == 5 || place == 7 || place == 14 || place == 16;
            Check.due("from 17 to " + place, got, above || odd ? -2 : 0);
        }
    }

    /** The bytes of the head are 0 but for the 1 at 5, which begins a LABEL of a byte 0. */
    private static int leadIntoHead(int place) {
        return place < 12 && place != 5 ? 0 : -2;
    }

    /** Terms 3: "(or the part of it that was led to) begins". */
    private static void placesOfParts() {
        // The OWNER at 34 leads to 30, a part that leads on to a place.
        for (int place = 12; place < 36; place++) {
            Check.Message message = message(2, 0, 0).question("a", 1)
                .raw(0).two(9).two(1).four(0).two(4).raw(LEAD, place, 1, 'b')
                .raw(LEAD, 30).two(9).two(1).four(0).two(0);
            int got = parse(message);
            if (place >= 30) {
                Check.due("a part at 30 that leads to " + place, got, -2);
            } else if (place == 12 || place == 14 || place == 19) {
                Check.due("a part at 30 that leads to " + place, got, 0);
            }
        }
        Check.Message within = message(2, 0, 0).question("a", 1)
            .raw(0).two(9).two(1).four(0).two(4).raw(1, 'b', LEAD, 30)
            .raw(LEAD, 30).two(9).two(1).four(0).two(0);
        Check.due("a part that leads to its own beginning", parse(within), -2);
        for (int place = 30; place < 34; place++) {
            // The part leads up to a root, which is below where the NAME begins.
            Check.Message up = message(2, 0, 0).question("a", 1)
                .raw(0).two(9).two(1).four(0).two(6).raw(1, 'b', LEAD, place + 2, 0, 0)
                .raw(LEAD, 30).two(9).two(1).four(0).two(0);
            Check.due("a part that leads up to " + (place + 2), parse(up), -2);
        }
        within.bytes.set(33, 12);
        Check.due("a part that leads below it", parse(within), 0);
        Check.Message chain = message(20, 0, 0).question("a", 1);
        for (int k = 0; k < 20; k++) {
            chain.raw(LEAD, k == 0 ? 12 : 7 + 12 * k).two(9).two(1).four(0).two(0);
        }
        Check.due("twenty leads on", parse(chain), 0);
    }

    /** Terms 2 and 3: "49152 and the place"; the place has fourteen bits. */
    private static void placesOfTwoBytes() {
        Check.Message far = message(2, 0, 0).question(".", 1).head(".", 99, 0, 300);
        for (int k = 0; k < 300; k++) {
            far.raw(k == 290 ? 1 : k == 291 ? 'f' : k == 292 ? 0 : 64);
        }
        int place = 28 + 290;
        far.raw(LEAD + (place >> 8), place).two(1).two(1).four(0).two(4).four(7);
        NameSeeker x = new NameSeeker();
        far.feedTo(x);
        Check.due("a place beyond 255", x.parse(), 1);
        Check.due("is f", Check.textOf(x, x.parsed(0, 1)).equals("f"), true);
        for (int high = 193; high < 256; high++) {
            Check.due("a place beyond the end: " + high, question(high, 0), -2);
        }
    }

    /** Terms 3: "a LABEL of more than 10 bytes". */
    private static void longLabels() {
        for (int n = 1; n <= 64; n++) {
            int[] name = new int[n + 2];
            Arrays.fill(name, 'z');
            name[0] = n;
            name[n + 1] = 0;
            Check.due("a label of " + n, question(name), n <= 10 ? 0 : -2);
        }
    }

    /** Terms 3: "or of others than told"; all 256 bytes are tried. */
    private static void otherBytes() {
        for (int v = 0; v < 256; v++) {
            boolean fits = "abcdefghijklmnopqrstuvwxyz0123456789-".indexOf(v) >= 0;
            Check.due("byte " + v + " alone", question(1, v, 0), fits ? 0 : -2);
            Check.due("byte " + v + " last", question(3, 'a', 'b', v, 0), fits ? 0 : -2);
        }
    }

    /** Terms 3: "more than 6 LABELS"; also those to which it is led. */
    private static void moreThanSixLabels() {
        for (int n = 1; n <= 8; n++) {
            int[] name = new int[2 * n + 1];
            for (int k = 0; k < n; k++) {
                name[2 * k] = 1;
                name[2 * k + 1] = 'a' + k;
            }
            Check.due(n + " labels", question(name), n <= 6 ? 0 : -2);
            for (int own = 0; own <= 4; own++) {
                Check.Message led = message(1, 0, 0).raw(name).four(0);
                if (n > 6) {
                    break;
                }
                for (int k = 0; k < own; k++) {
                    led.raw(1, 'z');
                }
                led.raw(LEAD, 12).two(9).two(1).four(0).two(0);
                Check.due(own + " labels and " + n, parse(led), own + n <= 6 ? 0 : -2);
            }
        }
    }

    /** Terms 3: "the first FAULT: .. Then along the bytes". */
    private static void firstFaultAlongTheBytes() {
        Check.due("a wrong byte, then the end", parse(message(0, 0, 0).raw(5, 'a', 'B')), -2);
        Check.due("the end, a wrong byte is not there", parse(message(0, 0, 0).raw(5, 'a', 'b')), -3);
        Check.due("a long label at the end", parse(message(0, 0, 0).raw(11)), -2);
        Check.due("a lead ahead at the end", parse(message(0, 0, 0).raw(LEAD, 12)), -2);
        Check.due("half a lead", parse(message(0, 0, 0).raw(LEAD)), -3);
        Check.due("the question ahead of records", parse(message(1, 0, 0).raw(64).four(0).head("a", 1, 0, 9)), -2);
        Check.due("a record ahead of the next one",
            parse(message(2, 0, 0).question(".", 1).head(".", 1, 0, 3).raw(0, 0, 0).head("A", 1, 0, 0)), -4);
        Check.due("an owner ahead of its data",
            parse(message(1, 0, 0).question(".", 1).head("A", 1, 0, 3).raw(0, 0, 0)), -2);
        Check.due("sections in their order",
            parse(message(0, 1, 1).question(".", 1).head(".", 1, 0, 3).raw(0, 0, 0).raw(64)), -4);
    }

    /** Terms 3: "3 it ends too early"; at each byte of a MESSAGE with every kind of RECORD. */
    private static void endsTooEarly() {
        int[] whole = message(2, 2, 2).question("q.z", 1)
            .address("a", 1, 1).raw(LEAD, 12).two(2).two(1).four(0).two(2).raw(LEAD, 14)
            .soa("a", 1, 1).named("b", 5, "c.d", 1)
            .number("a", 1, 1).head("o", 77, 1, 3).raw(64, 64, 64).all();
        for (int n = 12; n <= whole.length; n++) {
            NameSeeker x = new NameSeeker();
            Check.feed(x, whole);
            x.end(n);
            Check.due("cut to " + n, x.parse(), n < whole.length ? -3 : 5);
        }
        int[] alone = message(0, 0, 0).question("q.z", 1).all();
        for (int n = 12; n <= alone.length; n++) {
            NameSeeker x = new NameSeeker();
            Check.feed(x, alone);
            x.end(n);
            Check.due("a question cut to " + n, x.parse(), n < alone.length ? -3 : 0);
        }
    }

    /** Terms 3: "3 it ends too early"; counts that tell of more than there is, up to the largest. */
    private static void recordsThatAreNotThere() {
        for (int count : new int[] {2, 255, 256, 32768, 65535}) {
            Check.due("first " + count, parse(message(count, 0, 0).question(".", 1).address(".", 1, 1)), -3);
            Check.due("second " + count, parse(message(0, count, 0).question(".", 1).address(".", 1, 1)), -3);
            Check.due("third " + count, parse(message(0, 0, count).question(".", 1).address(".", 1, 1)), -3);
        }
    }

    /** Terms 3: "(also where DATA would go beyond the end, ahead of all else of them)". */
    private static void dataBeyondTheEnd() {
        for (int type : new int[] {1, 2, 5, 16, 6, 99}) {
            for (int length : new int[] {4, 255, 256, 32768, 65535}) {
                Check.due("type " + type + " of " + length + " with three",
                    parse(message(1, 0, 0).question(".", 1).head(".", type, 0, length).raw(64, 64, 64)), -3);
            }
            Check.due("type " + type + " of another class",
                parse(message(1, 0, 0).question(".", 1).name(".").two(type).two(7).four(0).two(1)), -3);
        }
    }

    private static int data(int type, int... bytes) {
        return parse(message(1, 0, 0).question("a", 1).head("a", type, 0, bytes.length).raw(bytes));
    }

    /** Terms 3: "4 .. DATA has another length than told", of TYPE 1: four bytes. */
    private static void lengthOfAddresses() {
        for (int n = 0; n <= 8; n++) {
            Check.due("an address of " + n, data(1, new int[n]), n == 4 ? 1 : -4);
        }
        Check.due("an address of 260", data(1, new int[260]), -4);
    }

    /** Terms 3: of TYPE 16 "4 and four bytes", and "a 16 must begin with a 4". */
    private static void lengthOfNumbers() {
        for (int n = 0; n <= 8; n++) {
            int[] bytes = new int[n];
            if (n > 0) {
                bytes[0] = 4;
            }
            Check.due("a number of " + n, data(16, bytes), n == 5 ? 1 : -4);
            if (n > 0) {
                bytes[0] = n - 1;
                Check.due("a number that tells of " + (n - 1), data(16, bytes), n == 5 ? 1 : -4);
            }
        }
        for (int v = 0; v < 256; v++) {
            Check.due("a number behind " + v, data(16, v, 1, 2, 3, 4), v == 4 ? 1 : -4);
        }
    }

    /** Terms 3: of TYPE 6 "two roots, and in four bytes each" five numbers. */
    private static void lengthOfSoas() {
        for (int n : new int[] {0, 1, 2, 20, 21, 22, 23, 24, 278}) {
            Check.due("an soa of " + n, data(6, new int[n]), n == 22 ? 1 : -4);
        }
        int[] any = new int[22];
        Arrays.fill(any, 2, 22, 255);
        Check.due("any numbers", data(6, any), 1);
        for (int v : new int[] {1, 11, 64, 191, 192, 255}) {
            int[] bytes = new int[22];
            bytes[0] = v;
            Check.due("a first name of " + v, data(6, bytes), -4);
            bytes[0] = 0;
            bytes[1] = v;
            Check.due("a second name of " + v, data(6, bytes), -4);
        }
    }

    /** Terms 3: "of others any bytes". */
    private static void lengthOfOthers() {
        for (int type : new int[] {0, 3, 4, 7, 15, 17, 28, 257, 258, 261, 262, 272, 65535}) {
            for (int n = 0; n <= 5; n++) {
                int[] bytes = new int[n];
                Arrays.fill(bytes, 64);
                Check.due("type " + type + " of " + n, data(type, bytes), 0);
            }
        }
    }

    /** Terms 3: "or whose NAME in it is wrong". The question is at 12, the DATA at 32. */
    private static void namesInData() {
        for (int type : new int[] {2, 5}) {
            Check.due("a root", data(type, 0), 1);
            Check.due("a lead", data(type, LEAD, 12), 1);
            Check.due("a label and a lead", data(type, 1, 'b', LEAD, 12), 1);
            Check.due("a label of 10", data(type, 10, 'a', 'b', 'c', 'd', 'e', 'f', 'g', 'h', 'i', 'j', 0), 1);
            Check.due("a label of 11", data(type, 11, 'a', 'b', 'c', 'd', 'e', 'f', 'g', 'h', 'i', 'j', 'k', 0), -4);
            Check.due("a byte of 64", data(type, 64), -4);
            Check.due("a byte of 191", data(type, 191, 12), -4);
            Check.due("another byte", data(type, 1, 'B', 0), -4);
            Check.due("a lead to itself", data(type, LEAD, 32), -4);
            Check.due("a lead ahead", data(type, LEAD, 33), -4);
            Check.due("a lead to a root below", data(type, LEAD, 26), 1);
            Check.due("five labels and a lead", data(type, 1, 'b', 1, 'b', 1, 'b', 1, 'b', 1, 'b', LEAD, 12), 1);
            Check.due("six labels and a lead", data(type, 1, 'b', 1, 'b', 1, 'b', 1, 'b', 1, 'b', 1, 'b', LEAD, 12),
                -4);
        }
    }

    /** Terms 3: "(also its end)". */
    private static void endOfNamesInData() {
        for (int type : new int[] {2, 5}) {
            Check.due("no byte at the end", data(type), -4);
            Check.due("no root", data(type, 1, 'b'), -4);
            Check.due("half a label", data(type, 3, 'b'), -4);
            Check.due("half a lead", data(type, LEAD), -4);
            Check.due("a byte behind a root", data(type, 0, 0), -4);
            Check.due("a byte behind a name", data(type, 1, 'b', 0, 0), -4);
            Check.due("a byte behind a lead", data(type, LEAD, 12, 0), -4);
            int[] name = {1, 'b', 0};
            for (int length = 0; length <= 4; length++) {
                // Behind the NAME are bytes of the next RECORD, so that a length of 4 is not too long for all.
                Check.Message two = message(2, 0, 0).question("a", 1).head("a", type, 0, length).raw(name)
                    .address("a", 1, 1);
                Check.due("a name of three told as " + length, parse(two), length == 3 ? 2 : -4);
            }
        }
    }

    /** Terms 3: "4 a RECORD, of whatever class". */
    private static void whateverClass() {
        for (int kind : new int[] {0, 2, 256, 257, 65535}) {
            for (int type : KNOWN) {
                Check.Message wrong = message(1, 0, 0).question(".", 1).name(".").two(type).two(kind).four(0).two(3)
                    .raw(1, 2, 3);
                Check.due("type " + type + " of class " + kind, parse(wrong), -4);
            }
            Check.Message right = message(1, 0, 0).question(".", 1).name(".").two(1).two(kind).four(0).two(4).four(9);
            Check.due("a right one of class " + kind, parse(right), 0);
        }
    }

    /** Terms 3: "5 bytes behind the last RECORD". */
    private static void bytesBehind() {
        for (int n = 0; n <= 3; n++) {
            Check.due(n + " behind the question", parse(message(0, 0, 0).question("a", 1).raw(new int[n])),
                n == 0 ? 0 : -5);
            Check.due(n + " behind a record", parse(message(0, 0, 1).question("a", 1).address("a", 1, 1)
                .raw(new int[n])), n == 0 ? 1 : -5);
            Check.due(n + " behind one that does not count", parse(message(0, 1, 0).question("a", 1)
                .head("a", 99, 0, 0).raw(new int[n])), n == 0 ? 0 : -5);
        }
    }

    /** Terms 3: "A NAME that is not there yet is made as it was read, from the root down, whatever is wrong behind". */
    private static void namesAreMade() {
        Check.Message[] wrong = {
            message(0, 0, 0).name("c.b.a"),
            message(0, 0, 0).question("c.b.a", 1).raw(0),
            message(1, 0, 0).question("c.b.a", 1).raw(64),
            message(1, 0, 0).question("a", 1).name("c.b.a"),
            message(1, 0, 0).question("b.a", 1).head("c.b.a", 1, 0, 3).raw(0, 0, 0),
            message(1, 0, 0).question("a", 1).named("b.a", 2, "c.b.a", 0).raw(0),
            message(1, 0, 0).question("a", 1).name("b.a").two(5).two(7).four(0).two(7).name("c.b.a").raw(0),
        };
        int[] fault = {-3, -5, -2, -3, -4, -5, -5};
        for (int k = 0; k < wrong.length; k++) {
            NameSeeker x = new NameSeeker();
            wrong[k].feedTo(x);
            Check.due("wrong " + k, x.parse(), fault[k]);
            Check.due("made by " + k, x.count(0), 4);
            Check.due("c.b.a by " + k, Check.name(x, "c.b.a"), 3);
            Check.due("under b.a by " + k, x.look(3, 1), 2);
        }
    }

    /** Terms 3: a NAME that is wrong was not read, so none of it is made; nor where the head is wrong. */
    private static void wrongNamesAreNotMade() {
        Check.Message[] wrong = {
            message(0, 0, 0).raw(1, 'a', 64, 0).four(0),
            message(0, 0, 0).raw(1, 'a', 1, 'B', 0).four(0),
            message(0, 0, 0).raw(1, 'a', LEAD, 12).four(0),
            message(0, 0, 0).name("a.b.c.d.e.f.g").four(0),
            message(0, 0, 0).raw(1, 'a'),
            message(1, 0, 0).question(".", 1).head(".", 2, 0, 3).raw(1, 'a', 64),
        };
        for (int k = 0; k < wrong.length; k++) {
            NameSeeker x = new NameSeeker();
            wrong[k].feedTo(x);
            Check.due("wrong " + k, x.parse() < 0, true);
            Check.due("made by " + k, x.count(0), 1);
        }
        NameSeeker y = new NameSeeker();
        message(0, 0, 0).question("a", 1).feedTo(y);
        y.turn(5, 2);
        Check.due("a wrong head", y.parse(), -1);
        Check.due("nothing is read", y.count(0), 1);
    }

    /** Terms 3: "where it would be the 301st: 6". */
    private static void the301st() {
        for (int room = 0; room <= 3; room++) {
            Check.Message[] three = {
                message(0, 0, 0).question("p.q.r", 1),
                message(1, 0, 0).question(".", 1).address("p.q.r", 1, 1),
                message(1, 0, 0).question(".", 1).named(".", 2, "p.q.r", 1),
                message(1, 0, 0).question(".", 1).named(".", 5, "p.q.r", 1),
            };
            for (int k = 0; k < three.length; k++) {
                NameSeeker x = new NameSeeker();
                Scene.fillNames(x, 300 - room);
                three[k].feedTo(x);
                Check.due("room for " + room + ", place " + k, x.parse(), room < 3 ? -6 : k == 0 ? 0 : 1);
                Check.due("from the root down", x.count(0), 300);
                if (room > 0) {
                    Check.due("the upper one", Check.textOf(x, 300 - room).equals("r"), true);
                }
            }
        }
        NameSeeker y = new NameSeeker();
        Check.name(y, "p.q.r");
        Scene.fillNames(y, 300);
        message(1, 0, 0).question("q.r", 1).named("p.q.r", 2, "r", 1).feedTo(y);
        Check.due("those that are there", y.parse(), 1);
    }

    /** Terms 3: the first FAULT along the bytes, where one of them is 6. */
    private static void the301stComesFirst() {
        NameSeeker x = new NameSeeker();
        Scene.fillNames(x, 300);
        message(0, 0, 0).name("new").feedTo(x);
        Check.due("ahead of the end behind it", x.parse(), -6);
        message(0, 0, 0).raw(3, 'n', 'e', 'w', 64).feedTo(x);
        Check.due("a wrong name is told as such", x.parse(), -2);
        message(0, 0, 0).raw(3, 'n', 'e', 'w').feedTo(x);
        Check.due("one without an end, too", x.parse(), -3);
        message(1, 0, 0).question(".", 1).head("new", 1, 0, 3).raw(1, 2, 3).feedTo(x);
        Check.due("ahead of its data", x.parse(), -6);
        message(1, 0, 0).question(".", 1).head(".", 1, 0, 3).raw(1, 2, 3).name("new").feedTo(x);
        Check.due("behind wrong data", x.parse(), -4);
        message(0, 0, 0).question("new", 1).feedTo(x);
        x.turn(4, 1);
        Check.due("behind a wrong head", x.parse(), -1);
    }

    /** Terms 3: "Of the RECORDS those count whose class is 1 and whose TYPE is 1, 2, 5, 16, 6." */
    private static void whatCounts() {
        for (int type = 0; type <= 300; type++) {
            for (int kind : new int[] {0, 1, 2, 256, 257}) {
                boolean known = type == 1 || type == 2 || type == 5 || type == 16 || type == 6;
                int[] bytes = type == 1 ? new int[4] : type == 16 ? new int[] {4, 0, 0, 0, 0}
                    : type == 6 ? new int[22] : new int[1];
                int got = parse(message(0, 1, 0).question(".", 1).name(".").two(type).two(kind).four(0)
                    .two(bytes.length).raw(bytes));
                Check.due("type " + type + " of class " + kind, got, known && kind == 1 ? 1 : 0);
            }
        }
    }

    /** Promise 14: "how many RECORDS count"; as many as a full TAPE can have. */
    private static void countOfMost() {
        NameSeeker x = new NameSeeker();
        Check.Message most = message(27, 27, 27).question(".", 1);
        for (int k = 0; k < 81; k++) {
            most.named(".", k % 2 == 0 ? 2 : 5, ".", k);
        }
        most.feedTo(x);
        Check.due("81 of 989 bytes", x.parse(), 81);
        for (int k = 0; k < 81; k++) {
            Check.due("section of " + k, x.parsed(k, 0), k / 27);
            Check.due("life of " + k, x.parsed(k, 4), k);
        }
        Check.Message full = message(81, 0, 0).question(".", 1).named(".", 2, "z", 0);
        for (int k = 1; k < 81; k++) {
            int[] name = k < 10 ? new int[] {LEAD, 28} : new int[] {0};
            full.head(".", 2, k, name.length).raw(name);
        }
        full.feedTo(x);
        Check.due("a full tape", x.count(8), 1000);
        Check.due("81 of 1000 bytes", x.parse(), 81);
        Check.due("a lead among them", Check.textOf(x, x.parsed(9, 3)).equals("z"), true);
    }

    /** Promise 15: "4 LIFE (going round at 32 bits)". */
    private static void lifeGoesRound() {
        long[] lives = {0, 1, 100000, 100001, 0x7fffffffL, 0x80000000L, 0xfffffffeL, 0xffffffffL};
        for (long life : lives) {
            NameSeeker x = new NameSeeker();
            message(1, 0, 0).question(".", 1).address(".", 1, life).feedTo(x);
            Check.due("life " + life, x.parse(), 1);
            Check.due("is " + (int) life, x.parsed(0, 4), (int) life);
        }
    }

    /** Promise 15: "3 DATA (of an SOA its last number)". */
    private static void soaLastNumber() {
        for (long last : new long[] {0, 7, 0x7fffffffL, 0x80000000L, 0xffffffffL}) {
            NameSeeker x = new NameSeeker();
            message(0, 1, 0).question(".", 1).head("a", 6, 3, 22).raw(0, 0).four(11).four(12).four(13).four(14)
                .four(last).feedTo(x);
            Check.due("read", x.parse(), 1);
            Check.due("last number " + last, x.parsed(0, 3), (int) last);
            Check.due("life", x.parsed(0, 4), 3);
            Check.due("type", x.parsed(0, 2), 6);
        }
    }

    /** Promise 14: "Uses the TAPE up", with a FAULT or without one. */
    private static void parseUsesUp() {
        NameSeeker x = new NameSeeker();
        Check.due("an empty one", x.parse(), -1);
        x.feed(0, 0, 0, 0, 0);
        Check.due("a fault", x.parse(), -1);
        Check.due("used up", x.count(8), 0);
        message(1, 0, 0).question(".", 1).address(".", 1, 1).feedTo(x);
        Check.due("none", x.parse(), 1);
        Check.due("used up, too", x.count(8), 0);
        Check.due("now it is empty", x.parse(), -1);
    }

    /** Promise 15: "NoSuchElementException: there is none such". */
    private static void parsedNoneSuch() {
        NameSeeker x = new NameSeeker();
        Check.thrown("no parse yet", NoSuchElementException.class, () -> x.parsed(0, 0));
        x.parse();
        Check.thrown("a fault alone", NoSuchElementException.class, () -> x.parsed(0, 0));
        message(2, 0, 1).question(".", 1).address(".", 1, 1).head(".", 99, 0, 0).address(".", 3, 1).feedTo(x);
        Check.due("two count", x.parse(), 2);
        Check.due("the last", x.parsed(1, 3), 3);
        for (int k : new int[] {Integer.MIN_VALUE, -1, 2, 3, 90, Integer.MAX_VALUE}) {
            for (int what = -1; what <= 5; what++) {
                int w = what;
                Check.thrown("parsed(" + k + ", " + w + ")", NoSuchElementException.class, () -> x.parsed(k, w));
            }
        }
    }

    /** Promise 15: "or another what". */
    private static void parsedAnotherWhat() {
        NameSeeker x = new NameSeeker();
        message(1, 0, 0).question(".", 1).address(".", 1, 1).feedTo(x);
        x.parse();
        for (int what : new int[] {Integer.MIN_VALUE, -1, 5, 6, Integer.MAX_VALUE}) {
            Check.thrown("parsed(0, " + what + ")", NoSuchElementException.class, () -> x.parsed(0, what));
        }
    }

    /** Promise 15: "Of the latest parse() without a FAULT". */
    private static void parsedOfTheLatest() {
        NameSeeker x = new NameSeeker();
        message(2, 0, 0).question(".", 1).address(".", 5, 1).address(".", 6, 1).feedTo(x);
        x.parse();
        Check.Message[] faults = {
            message(1, 0, 0).question(".", 1).address(".", 7, 1).raw(0),
            message(2, 0, 0).question(".", 1).address(".", 7, 1),
            message(2, 0, 0).question(".", 1).address(".", 7, 1).raw(64),
            message(2, 0, 0).question(".", 1).address(".", 7, 1).head(".", 1, 0, 0),
        };
        for (Check.Message fault : faults) {
            fault.feedTo(x);
            Check.due("a fault", x.parse() < 0, true);
            Check.due("the first of before", x.parsed(0, 3), 5);
            Check.due("the second of before", x.parsed(1, 3), 6);
        }
        message(1, 0, 0).question(".", 1).address(".", 7, 1).feedTo(x);
        x.parse();
        Check.due("the latest", x.parsed(0, 3), 7);
        Check.thrown("has no second", NoSuchElementException.class, () -> x.parsed(1, 3));
        message(0, 0, 0).question(".", 1).feedTo(x);
        Check.due("without records", x.parse(), 0);
        Check.thrown("has no first", NoSuchElementException.class, () -> x.parsed(0, 3));
    }
}
