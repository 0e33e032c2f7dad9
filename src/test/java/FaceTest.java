import java.io.IOException;
import java.lang.reflect.Field;
import java.lang.reflect.Method;
import java.lang.reflect.Modifier;
import java.nio.file.Files;
import java.nio.file.Path;
import java.util.Set;
import java.util.TreeSet;
import java.util.regex.Matcher;
import java.util.regex.Pattern;

/** The public face of the document, and those rules of LANGUAGE.md that can be seen from outside. */
public final class FaceTest {
    private static final String[] FACE = {
        "int about(int,int)", "int as(int,int)", "int atOnce(int)", "int begin(int,int)", "int blank()", "int card()",
        "int clear()", "int count(int)", "int dish(int,int)", "int evening(int,int,int)", "int evenings(int,int,int)",
        "int fault()", "int fewest(int)", "int fits(int)", "int forget()", "int guest(int,int)", "int host()",
        "int image()", "int inTurn(int,int)", "int letter(int)", "int minds(int)", "int order(int)",
        "int purse(int,int)", "int restore()", "int takes(int)", "int urge(int,int)", "int urges(int,int,int)",
        "int want(int,int,int)", "long digest()",
    };
    private static final String[] FORBIDDEN = {
        "throw", "throws", "try", "catch", "finally", "synchronized", "assert", "import", "package", "native",
        "volatile", "transient", "System.out", "System.err", "Object", "@",  "->", "::", "Exact",
    };

    public static void main(String[] args) throws IOException {
        constants();
        members();
        nestedClasses();
        source();
        Checks.close("FaceTest");
    }

    private static void constants() {
        Checks.due("NONE", OrdersInTurn.NONE, -1);
        Checks.due("UNKNOWN", OrdersInTurn.UNKNOWN, -101);
        Checks.due("OUTSIDE", OrdersInTurn.OUTSIDE, -102);
        Checks.due("STATE", OrdersInTurn.STATE, -103);
        Checks.due("FULL", OrdersInTurn.FULL, -104);
    }

    private static void members() {
        Class<OrdersInTurn> c = OrdersInTurn.class;
        Checks.isTrue("public and final", Modifier.isPublic(c.getModifiers()) && Modifier.isFinal(c.getModifiers()));
        Checks.due("constructors", c.getDeclaredConstructors().length, 1);
        Checks.due("public constructors without parameters", c.getConstructors().length, 1);
        Set<String> open = new TreeSet<>();
        Set<String> openNames = new TreeSet<>();
        for (Method m : c.getDeclaredMethods()) {
            if (!Modifier.isPrivate(m.getModifiers())) {
                Checks.isTrue(m + " is public and of the object", m.getModifiers() == Modifier.PUBLIC);
                open.add(m.toString().replace("public ", "").replace("OrdersInTurn.", ""));
                openNames.add(m.getName());
            }
        }
        Checks.isTrue("the face is " + open, open.equals(new TreeSet<>(Set.of(FACE))));
        for (Method m : c.getDeclaredMethods()) {
            boolean hidden = Modifier.isPrivate(m.getModifiers());
            Checks.isTrue(m + " bears a name of its own", !hidden || !openNames.contains(m.getName()));
        }
        Set<String> fields = new TreeSet<>();
        for (Field f : c.getDeclaredFields()) {
            if (!Modifier.isPrivate(f.getModifiers())) {
                fields.add(f.getName());
            }
            Checks.isTrue(f + " is no static state", !Modifier.isStatic(f.getModifiers())
                    || Modifier.isFinal(f.getModifiers()));
        }
        Checks.isTrue("constants are " + fields,
                fields.equals(Set.of("NONE", "UNKNOWN", "OUTSIDE", "STATE", "FULL")));
    }

    private static void nestedClasses() {
        Class<?>[] nested = OrdersInTurn.class.getDeclaredClasses();
        Checks.isTrue("at most eleven classes inside", nested.length <= 11);
        for (Class<?> c : nested) {
            Checks.isTrue(c + " is static", Modifier.isStatic(c.getModifiers()));
            Checks.isTrue(c + " is not open", !Modifier.isPublic(c.getModifiers())
                    && !Modifier.isProtected(c.getModifiers()));
            Checks.isTrue(c + " has at most twenty fields", c.getDeclaredFields().length <= 20);
            for (Method m : c.getDeclaredMethods()) {
                Checks.isTrue(m + " has at most seven parameters", m.getParameterCount() <= 7);
                for (String face : FACE) {
                    Checks.isTrue(m + " bears a name of its own", !face.contains(" " + m.getName() + "("));
                }
            }
        }
    }

    private static void source() throws IOException {
        String text = Files.readString(Path.of("src/main/java/OrdersInTurn.java"));
        Checks.isTrue("signs 1 to 127", text.chars().allMatch(c -> c >= 1 && c <= 127));
        String code = text.replaceAll("(?s)/\\*.*?\\*/", "").replaceAll("//[^\n]*", "");
        for (String word : FORBIDDEN) {
            String whole = Character.isLetter(word.charAt(0)) ? "\\b" + Pattern.quote(word) + "\\b" : Pattern.quote(word);
            Checks.isTrue("no " + word, !Pattern.compile(whole).matcher(code).find());
        }
        Matcher library = Pattern.compile("\\b(System|Math|Integer|Long|Arrays|String|List|ArrayList)\\b\\.?\\w*")
                .matcher(code);
        Set<String> used = new TreeSet<>();
        while (library.find()) {
            used.add(library.group());
        }
        used.removeAll(Set.of("System.arraycopy", "Math.min", "Math.max", "Integer.bitCount"));
        Checks.isTrue("nothing else of the library, but " + used, used.isEmpty());
        methodLengths(code);
    }

    private static void methodLengths(String code) {
        Matcher start = Pattern.compile("(?m)^( {4}| {8})\\S.*\\) \\{$").matcher(code);
        while (start.find()) {
            int end = code.indexOf("\n" + start.group(1) + "}", start.end());
            long lines = code.substring(start.start(), Math.max(start.start(), end)).lines().count();
            Checks.isTrue(start.group().trim() + " has an end", end > 0);
            Checks.isTrue(start.group().trim() + " has at most sixty lines", lines <= 60);
        }
    }
}
