import java.util.ArrayList;
import java.util.List;

/** What the tests share: comparing answers, and bringing bytes to the TAPE of an object. */
final class Check {
    interface Call {
        long run();
    }

    private static int wrong = 0;

    private Check() {
    }

    static void due(String what, long got, long want) {
        if (got != want) {
            wrong++;
            System.out.println(what + " answered " + got + ", due is " + want);
        }
    }

    static void due(String what, boolean got, boolean want) {
        due(what, got ? 1 : 0, want ? 1 : 0);
    }

    /** The class is compared exactly, as what the machine throws is often below the due one. */
    static void thrown(String what, Class<? extends RuntimeException> want, Call call) {
        String got;
        try {
            got = "the answer " + call.run();
        } catch (RuntimeException e) {
            got = e.getClass().getName();
        }
        if (!got.equals(want.getName())) {
            wrong++;
            System.out.println(what + " gave " + got + ", due is " + want.getName());
        }
    }

    static void finish() {
        System.out.println(wrong == 0 ? "all as due" : wrong + " not as due");
        if (wrong != 0) {
            System.exit(1);
        }
    }

    /** Brings bytes to an empty TAPE. */
    static void feed(NameSeeker x, int... bytes) {
        x.end(0);
        for (int i = 0; i < bytes.length; i += 20) {
            int[] five = new int[5];
            for (int k = 0; k < 20; k++) {
                int v = i + k < bytes.length ? bytes[i + k] & 255 : 0;
                five[k / 4] = five[k / 4] << 8 | v;
            }
            x.feed(five[0], five[1], five[2], five[3], five[4]);
        }
        x.end(bytes.length);
    }

    static void feed(NameSeeker x, String text) {
        int[] bytes = new int[text.length()];
        for (int i = 0; i < bytes.length; i++) {
            bytes[i] = text.charAt(i);
        }
        feed(x, bytes);
    }

    static int name(NameSeeker x, String text) {
        feed(x, text);
        return x.name();
    }

    static String textOf(NameSeeker x, int name) {
        StringBuilder text = new StringBuilder();
        for (int i = 0; i < x.look(name, 2); i++) {
            text.append((char) x.text(name, i));
        }
        return text.toString();
    }

    /** A MESSAGE put together by hand; NAMES are written whole, or as the bytes that are given. */
    static final class Message {
        final List<Integer> bytes = new ArrayList<>();

        Message(int id, int flags, int first, int second, int third) {
            two(id).two(flags).two(1).two(first).two(second).two(third);
        }

        Message raw(int... more) {
            for (int v : more) {
                bytes.add(v & 255);
            }
            return this;
        }

        Message two(int v) {
            return raw(v >> 8, v);
        }

        Message four(long v) {
            return two((int) (v >> 16)).two((int) v);
        }

        Message name(String text) {
            if (!text.equals(".") && !text.isEmpty()) {
                for (String label : text.split("\\.")) {
                    raw(label.length());
                    for (char c : label.toCharArray()) {
                        raw(c);
                    }
                }
            }
            return raw(0);
        }

        Message question(String name, int type) {
            return name(name).two(type).two(1);
        }

        Message head(String owner, int type, long life, int length) {
            return name(owner).two(type).two(1).four(life).two(length);
        }

        Message address(String owner, int address, long life) {
            return head(owner, 1, life, 4).four(address);
        }

        Message number(String owner, int number, long life) {
            return head(owner, 16, life, 5).raw(4).four(number);
        }

        Message named(String owner, int type, String value, long life) {
            int length = value.equals(".") ? 1 : value.length() + 2;
            return head(owner, type, life, length).name(value);
        }

        Message soa(String owner, long life, long last) {
            return head(owner, 6, life, 22).raw(0, 0).four(1).four(0).four(0).four(0).four(last);
        }

        void feedTo(NameSeeker x) {
            feed(x, all());
        }

        int[] all() {
            int[] row = new int[bytes.size()];
            for (int i = 0; i < row.length; i++) {
                row[i] = bytes.get(i);
            }
            return row;
        }
    }
}
