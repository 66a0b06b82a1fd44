import java.lang.reflect.Constructor;
import java.lang.reflect.Field;
import java.lang.reflect.Method;
import java.lang.reflect.Modifier;
import java.nio.file.Files;
import java.nio.file.Path;
import java.util.Set;
import java.util.TreeSet;

/** The public face of the document, and rules of LANGUAGE.md that can be seen without a reader. */
public final class FaceTest {
    private static final String[] FACE = {
        "int feed(int,int,int,int,int)",
        "boolean end(int)",
        "boolean turn(int,int)",
        "int name() IllegalArgumentException UnsupportedOperationException",
        "int look(int,int) IndexOutOfBoundsException NoSuchElementException",
        "int text(int,int) IndexOutOfBoundsException",
        "int zone(int,int) IndexOutOfBoundsException IllegalArgumentException UnsupportedOperationException",
        "int record(int,int,int,int,int) IndexOutOfBoundsException IllegalArgumentException "
            + "UnsupportedOperationException",
        "int drop(int,int,int) IndexOutOfBoundsException",
        "int server(int) IllegalArgumentException UnsupportedOperationException",
        "boolean serve(int,int,boolean) IndexOutOfBoundsException",
        "int say(int,int,int) IndexOutOfBoundsException",
        "int parse()",
        "int parsed(int,int) NoSuchElementException",
        "int hint(int)",
        "int tick(int) IllegalArgumentException",
        "int ask(int,int) IndexOutOfBoundsException IllegalStateException IllegalArgumentException",
        "int step() IllegalStateException",
        "int lose() IllegalStateException",
        "int forge() IllegalStateException",
        "int query(int) IllegalStateException NoSuchElementException",
        "int result(int) NoSuchElementException",
        "int data(int)",
        "int cached(int,int) IndexOutOfBoundsException",
        "int count(int)",
    };

    private static final String[] OUTSIDE = {"->", "::", "try ", "catch", "finally", "synchronized", "assert ",
        "Exact(", "equals(", "hashCode", "System.out", "new Object", "protected ", "Random", "Thread", "_VALUE"};

    public static void main(String[] args) throws Exception {
        members();
        nested();
        text();
        Check.finish();
    }

    private static String face(Method method) {
        StringBuilder line = new StringBuilder(method.getReturnType() + " " + method.getName() + "(");
        for (Class<?> parameter : method.getParameterTypes()) {
            line.append(line.charAt(line.length() - 1) == '(' ? "" : ",").append(parameter);
        }
        line.append(")");
        for (Class<?> thrown : method.getExceptionTypes()) {
            line.append(" ").append(thrown.getSimpleName());
        }
        return line.toString();
    }

    private static void members() throws Exception {
        Class<?> type = NameSeeker.class;
        Check.due("public and final", Modifier.isPublic(type.getModifiers()) && Modifier.isFinal(type.getModifiers()),
            true);
        Set<String> want = new TreeSet<>(Set.of(FACE));
        Set<String> got = new TreeSet<>();
        for (Method method : type.getDeclaredMethods()) {
            if (!Modifier.isPrivate(method.getModifiers())) {
                got.add(face(method));
                Check.due(method + " is public", Modifier.isPublic(method.getModifiers()), true);
            }
        }
        Check.due("methods, these and no others: " + got, got.equals(want), true);
        Constructor<?>[] constructors = type.getDeclaredConstructors();
        Check.due("one constructor", constructors.length, 1);
        Check.due("it is public", Modifier.isPublic(constructors[0].getModifiers()), true);
        Check.due("without parameters", constructors[0].getParameterCount(), 0);
        for (Field field : type.getDeclaredFields()) {
            boolean isNone = field.getName().equals("NONE");
            Check.due(field + " is private", Modifier.isPrivate(field.getModifiers()), !isNone);
        }
        Field none = type.getField("NONE");
        Check.due("NONE", none.getInt(null), -1);
        Check.due("NONE is final", Modifier.isFinal(none.getModifiers()), true);
    }

    private static void nested() {
        Set<String> names = new TreeSet<>();
        for (String line : FACE) {
            names.add(line.substring(line.indexOf(' ') + 1, line.indexOf('(')));
        }
        Class<?>[] all = NameSeeker.class.getDeclaredClasses();
        Check.due("some twelve classes", all.length <= 12, true);
        for (Class<?> type : all) {
            int bits = type.getModifiers();
            Check.due(type + " is static", Modifier.isStatic(bits), true);
            Check.due(type + " is not seen", Modifier.isPublic(bits) || Modifier.isProtected(bits), false);
            Check.due(type + " has some twenty fields", type.getDeclaredFields().length <= 20, true);
            for (Method method : type.getDeclaredMethods()) {
                Check.due(method + " bears a public name", names.contains(method.getName()), false);
                Check.due(method + " takes seven at most", method.getParameterCount() <= 7, true);
            }
        }
        for (Method method : NameSeeker.class.getDeclaredMethods()) {
            boolean hidden = Modifier.isPrivate(method.getModifiers());
            Check.due(method + " bears a public name", hidden && names.contains(method.getName()), false);
        }
    }

    private static void text() throws Exception {
        String main = System.getProperty("main", "src/main/java/NameSeeker.java");
        String source = Files.readString(Path.of(main));
        String code = source.replaceAll("(?s)/\\*.*?\\*/", "").replaceAll("//[^\n]*", "");
        for (String word : OUTSIDE) {
            Check.due("no '" + word + "'", code.contains(word), false);
        }
        for (String line : code.split("\n")) {
            boolean other = line.startsWith("import ") && !line.equals("import java.util.Arrays;")
                && !line.equals("import java.util.NoSuchElementException;");
            Check.due(line, other, false);
            boolean loose = line.contains(" static ") && line.endsWith(";") && !line.contains(" final ");
            Check.due("a static field is final: " + line, loose, false);
        }
        for (int i = 0; i < source.length(); i++) {
            Check.due("plain letters at " + i, source.charAt(i) < 128, true);
        }
    }
}
