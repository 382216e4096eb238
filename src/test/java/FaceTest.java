import java.io.IOException;
import java.lang.reflect.Constructor;
import java.lang.reflect.Field;
import java.lang.reflect.Method;
import java.lang.reflect.Modifier;
import java.nio.file.Files;
import java.nio.file.Path;
import java.util.Arrays;
import java.util.Collections;
import java.util.Set;
import java.util.TreeSet;
import java.util.regex.Matcher;
import java.util.regex.Pattern;

/** The document's public face, and those rules of LANGUAGE.md that can be looked up. Runs in the project's folder. */
public final class FaceTest {
    private static final Due due = new Due();

    public static void main(String[] args) throws IOException {
        constants();
        members();
        nestedClasses();
        source();
        due.end();
    }

    private static void constants() {
        due.is("UNKNOWN", RootSigns.UNKNOWN, -1);
        due.is("OUTSIDE", RootSigns.OUTSIDE, -2);
        due.is("STATE", RootSigns.STATE, -3);
        due.is("FULL", RootSigns.FULL, -4);
        due.is("NONE", RootSigns.NONE, -9);
        due.is("LOST", RootSigns.LOST, Long.MIN_VALUE);
        Set<String> names = new TreeSet<>();
        for (Field f : RootSigns.class.getDeclaredFields()) {
            if (!Modifier.isPrivate(f.getModifiers())) {
                due.isTrue("constant " + f, f.toString().startsWith("public static final "));
                names.add(f.getName());
            }
            due.isTrue("no static state: " + f, !Modifier.isStatic(f.getModifiers()) || Modifier.isFinal(f.getModifiers()));
        }
        due.isTrue("the constants " + names, names.equals(Set.of("UNKNOWN", "OUTSIDE", "STATE", "FULL", "NONE", "LOST")));
    }

    private static void members() {
        due.isTrue("public and final", RootSigns.class.getModifiers() == (Modifier.PUBLIC | Modifier.FINAL));
        Constructor<?>[] made = RootSigns.class.getDeclaredConstructors();
        due.isTrue("one constructor", made.length == 1 && made[0].toString().equals("public RootSigns()"));
        Set<String> face = new TreeSet<>();
        for (int call = 0; call < Calls.NAMES.length; call++) {
            boolean isLong = Calls.answersLong(Calls.NAMES[call]);
            face.add("public " + (isLong ? "long" : "int") + " RootSigns." + Calls.NAMES[call] + "("
                + String.join(",", Collections.nCopies(Calls.ARGUMENTS[call], "int")) + ")");
        }
        Set<String> found = new TreeSet<>();
        for (Method m : RootSigns.class.getDeclaredMethods()) {
            boolean isPrivate = Modifier.isPrivate(m.getModifiers());
            if (!isPrivate) {
                found.add(m.toString());
            }
            due.isTrue("own name: " + m, !isPrivate || !isPublicName(m.getName()));
            due.isTrue("parameters of " + m, m.getParameterCount() <= 7);
        }
        due.isTrue("the face " + found, found.equals(face));
    }

    private static boolean isPublicName(String name) {
        return Arrays.asList(Calls.NAMES).contains(name);
    }

    private static void nestedClasses() {
        Class<?>[] nested = RootSigns.class.getDeclaredClasses();
        due.isTrue("at most twelve classes", nested.length < 12);
        for (Class<?> c : nested) {
            int how = c.getModifiers();
            due.isTrue("static: " + c, Modifier.isStatic(how));
            due.isTrue("not open: " + c, !Modifier.isPublic(how) && !Modifier.isProtected(how));
            int fields = 0;
            for (Field f : c.getDeclaredFields()) {
                fields += Modifier.isStatic(f.getModifiers()) ? 0 : 1;
            }
            due.isTrue("at most twenty fields: " + c, fields <= 20);
            for (Method m : c.getDeclaredMethods()) {
                due.isTrue("own name: " + m, !isPublicName(m.getName()));
                due.isTrue("parameters of " + m, m.getParameterCount() <= 7);
            }
        }
    }

    private static void source() throws IOException {
        String all = Files.readString(Path.of("src/main/java/RootSigns.java"));
        due.isTrue("signs 10 to 126 alone", all.chars().allMatch(c -> c == '\n' || c >= ' ' && c < 127));
        String code = all.replaceAll("(?s)/\\*.*?\\*/", " ").replaceAll("//[^\n]*", " ").replaceAll("'[^']'", "0");
        for (String word : new String[] {"throw", "throws", "try", "catch", "finally", "synchronized", "assert", "import",
            "package", "double", "float", "instanceof", "native", "volatile", "Exact"}) {
            due.isTrue("no " + word, !Pattern.compile("\\b" + word + "\\b").matcher(code).find());
        }
        for (String sign : new String[] {"->", "::", "\"", "@"}) {
            due.isTrue("no " + sign, !code.contains(sign));
        }
        Matcher library = Pattern.compile("\\b(?:System|Math|Integer|Long|Arrays)\\.(\\w+)").matcher(code);
        while (library.find()) {
            due.isTrue("library: " + library.group(), Set.of("arraycopy", "signum", "MIN_VALUE").contains(library.group(1)));
        }
        int length = 0;
        for (String line : all.split("\n")) {
            boolean begins = line.matches(" {4,8}(public|private|static|int|long|void|boolean|[A-Z]\\w*).*\\) \\{");
            length = begins ? 1 : length + 1;
            if (line.matches(" {4,8}\\}")) {
                due.isTrue("sixty lines at most, to: " + line, length <= 60);
                length = -1000000;
            }
        }
    }
}
