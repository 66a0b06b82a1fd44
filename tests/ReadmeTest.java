import java.nio.file.Files;
import java.nio.file.Path;
import java.util.ArrayList;
import java.util.List;
import java.util.regex.Matcher;
import java.util.regex.Pattern;

/** README.md tells of a run what each call answers; it must be so, and be this run. */
public final class ReadmeTest {
    private static final Pattern LINE = Pattern.compile("(.*?);(?:\\s+// (-?\\d+|true|false)\\b.*)?");
    private static final Pattern VARIABLE = Pattern.compile("int (\\w+) = .*");

    public static void main(String[] args) throws Exception {
        run();
        sameRun();
        Check.finish();
    }

    private static void run() {
        NameSeeker x = new NameSeeker();
        Check.due("x.feed(0x61000000, 0, 0, 0, 0)", x.feed(0x61000000, 0, 0, 0, 0), 20);
        Check.due("x.end(1)", x.end(1), true);
        int a = x.name();
        Check.due("a", a, 1);
        Check.due("x.feed(0x6e732e61, 0, 0, 0, 0)", x.feed(0x6e732e61, 0, 0, 0, 0), 20);
        Check.due("x.end(4)", x.end(4), true);
        int ns = x.name();
        Check.due("ns", ns, 2);
        Check.due("x.feed(0x772e6100, 0, 0, 0, 0)", x.feed(0x772e6100, 0, 0, 0, 0), 20);
        Check.due("x.end(3)", x.end(3), true);
        int w = x.name();
        Check.due("w", w, 3);
        Check.due("x.look(w, 1)", x.look(w, 1), 1);
        Check.due("x.text(w, 0)", x.text(w, 0), 119);
        int root = x.zone(0, 50);
        Check.due("root", root, 0);
        int below = x.zone(a, 20);
        Check.due("below", below, 1);
        Check.due("x.record(root, a, 2, ns, 100)", x.record(root, a, 2, ns, 100), 1);
        Check.due("x.record(root, ns, 1, 11, 90)", x.record(root, ns, 1, 11, 90), 2);
        Check.due("x.record(below, w, 1, 77, 30)", x.record(below, w, 1, 77, 30), 1);
        int upper = x.server(10);
        Check.due("upper", upper, 0);
        int lower = x.server(11);
        Check.due("lower", lower, 1);
        Check.due("x.serve(upper, root, true)", x.serve(upper, root, true), true);
        Check.due("x.serve(lower, below, true)", x.serve(lower, below, true), true);
        Check.due("x.hint(10)", x.hint(10), 1);
        Check.due("x.ask(w, 1)", x.ask(w, 1), 1);
        Check.due("x.query(0)", x.query(0), 10);
        Check.due("x.step()", x.step(), 1);
        Check.due("x.query(0)", x.query(0), 11);
        Check.due("x.step()", x.step(), 0);
        Check.due("x.result(0)", x.result(0), 0);
        Check.due("x.result(4)", x.result(4), 2);
        Check.due("x.data(0)", x.data(0), 77);
        Check.due("x.say(lower, w, 1)", x.say(lower, w, 1), 37);
        Check.due("x.parse()", x.parse(), 1);
        Check.due("x.parsed(0, 1)", x.parsed(0, 1), 3);
        Check.due("x.parsed(0, 3)", x.parsed(0, 3), 77);
        Check.due("x.say(lower, w, 1)", x.say(lower, w, 1), 37);
        Check.due("x.turn(12, 64)", x.turn(12, 64), true);
        Check.due("x.parse()", x.parse(), -2);
        Check.due("x.cached(w, 1)", x.cached(w, 1), 1);
        Check.due("x.tick(30)", x.tick(30), 30);
        Check.due("x.cached(w, 1)", x.cached(w, 1), -1);
        Check.due("x.ask(w, 1)", x.ask(w, 1), 1);
        Check.due("x.query(0)", x.query(0), 11);
        Check.due("x.query(1)", x.query(1), 3);
        Check.due("x.say(lower, w, 1)", x.say(lower, w, 1), 37);
        Check.due("x.forge()", x.forge(), -1);
        Check.due("x.say(lower, w, 1)", x.say(lower, w, 1), 37);
        Check.due("x.turn(1, 3)", x.turn(1, 3), true);
        Check.due("x.forge()", x.forge(), 0);
        Check.due("x.data(0)", x.data(0), 77);
        Check.due("x.tick(30)", x.tick(30), 60);
        Check.due("x.ask(w, 1)", x.ask(w, 1), 1);
        Check.due("x.lose()", x.lose(), 0);
        Check.due("x.result(0)", x.result(0), 3);
        Check.due("x.count(7)", x.count(7), 4);
    }

    private static void sameRun() throws Exception {
        String main = System.getProperty("main", "src/main/java/NameSeeker.java");
        Path root = Path.of(main).toAbsolutePath().getParent().getParent().getParent().getParent();
        List<String> told = told(Files.readAllLines(root.resolve("README.md")));
        List<String> made = made(Files.readAllLines(root.resolve("tests/ReadmeTest.java")));
        Check.due("README.md tells of calls", told.size() > 50, true);
        Check.due("lines of the run", made.size(), told.size());
        for (int k = 0; k < told.size() && k < made.size(); k++) {
            Check.due("'" + told.get(k) + "' is told, '" + made.get(k) + "' made", made.get(k).equals(told.get(k)),
                true);
        }
    }

    /** The lines that the run must have, by the Java lines of README.md. */
    private static List<String> told(List<String> readme) {
        List<String> lines = new ArrayList<>();
        boolean inside = false;
        for (String line : readme) {
            if (line.startsWith("```")) {
                inside = line.equals("```java");
            } else if (inside) {
                addTold(line.strip(), lines);
            }
        }
        return lines;
    }

    private static void addTold(String line, List<String> lines) {
        Matcher parts = LINE.matcher(line);
        Check.due("a call and its answer: " + line, parts.matches(), true);
        if (!parts.matches()) {
            return;
        }
        String code = parts.group(1);
        String want = parts.group(2);
        Matcher variable = VARIABLE.matcher(code);
        boolean named = variable.matches();
        if (want == null || named) {
            lines.add(code + ";");
        }
        if (want != null) {
            String what = named ? variable.group(1) : code;
            lines.add("Check.due(\"" + what + "\", " + what + ", " + want + ");");
        }
    }

    /** The lines of run() above. */
    private static List<String> made(List<String> source) {
        List<String> lines = new ArrayList<>();
        boolean inside = false;
        for (String line : source) {
            if (line.equals("    private static void run() {")) {
                inside = true;
            } else if (line.equals("    }")) {
                inside = false;
            } else if (inside) {
                lines.add(line.strip());
            }
        }
        return lines;
    }
}
