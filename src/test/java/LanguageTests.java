import java.io.IOException;
import java.lang.reflect.Array;
import java.lang.reflect.Constructor;
import java.lang.reflect.Field;
import java.lang.reflect.Method;
import java.lang.reflect.Modifier;
import java.nio.file.Files;
import java.nio.file.Path;
import java.util.ArrayList;
import java.util.Arrays;
import java.util.IdentityHashMap;
import java.util.List;
import java.util.Set;
import java.util.TreeSet;
import java.util.regex.Matcher;
import java.util.regex.Pattern;

/** Some rules of LANGUAGE.md: the face, what may stand in the file, how long methods are, what one object makes. */
public final class LanguageTests {
    private static final Checks CHECKS = new Checks();
    private static final Path FILE = Path.of("src/main/java/MachineRing.java");
    private static final String[] FACE = {
        "int buy(int, int, int)", "int license(int, int)", "int setRate(int, int)", "int fill(int, int, int)",
        "int mend(int)", "int pay(int, int)", "int book(int, int, int, int)", "int bookAll()", "int takeBack(int)",
        "int pass(int)", "int set(int, int)", "int setSeed(int)", "int type(char)", "int clearText()", "int undo()",
        "int keep()", "int restore()", "int farmer(int, int)", "int machine(int, int)", "float fuel(int)",
        "int hours(int, int)", "int booking(int, int)", "int booked(int, int)", "int wet(int)", "int most(int)",
        "int lasts(int)", "int count(int)",
    };
    private static final String[] CONSTANTS = {"BAD_VALUE", "FULL", "NONE", "NOT_POSSIBLE", "UNKNOWN"};
    private static final String[] FORBIDDEN = {"\\bimport\\b", "\\bpackage\\b", "->", "::", "\\bthrow\\b", "\\btry\\b",
        "\\bcatch\\b", "\\bfinally\\b", "\\bsynchronized\\b", "\\bassert\\b", "\\bFloat\\b", "\\bDouble\\b",
        "\\bSystem\\.(?!arraycopy)", "\\bMath\\.\\w+Exact", "\\bthis\\b", "\\bwhile\\s*\\(true\\)", "[^\\x00-\\x7f]"};

    public static void main(String[] args) throws IOException, IllegalAccessException {
        face();
        classes();
        String source = Files.readString(FILE);
        signs(source);
        methodLengths(source);
        objectsAreMadeInConstructors(source);
        room();
        CHECKS.end();
    }

    private static void face() {
        CHECKS.begin("rule 1");
        Class<?> ring = MachineRing.class;
        CHECKS.holds("public and final", Modifier.isPublic(ring.getModifiers())
                && Modifier.isFinal(ring.getModifiers()));
        CHECKS.holds("one public constructor without parameters", ring.getDeclaredConstructors().length == 1
                && ring.getConstructors().length == 1 && ring.getConstructors()[0].getParameterCount() == 0);
        Set<String> shown = new TreeSet<>();
        Set<String> names = new TreeSet<>();
        for (Method method : ring.getDeclaredMethods()) {
            if (!Modifier.isPrivate(method.getModifiers())) {
                CHECKS.holds(method + " is public", Modifier.isPublic(method.getModifiers()));
                shown.add(told(method));
                names.add(method.getName());
            }
        }
        CHECKS.holds("the face is that of the document", shown.equals(new TreeSet<>(Arrays.asList(FACE))));
        Set<String> fields = new TreeSet<>();
        for (Field field : ring.getDeclaredFields()) {
            if (!Modifier.isPrivate(field.getModifiers())) {
                fields.add(field.getName());
            }
        }
        CHECKS.holds("the constants are those of the document",
                fields.equals(new TreeSet<>(Arrays.asList(CONSTANTS))));
        for (Class<?> each : all()) {
            for (Method method : each.getDeclaredMethods()) {
                CHECKS.holds(method + " has no name of the face", each == ring && Modifier.isPublic(method.getModifiers())
                        || !names.contains(method.getName()));
            }
        }
    }

    private static String told(Method method) {
        List<String> parameters = new ArrayList<>();
        for (Class<?> parameter : method.getParameterTypes()) {
            parameters.add(parameter.getName());
        }
        return method.getReturnType().getName() + " " + method.getName() + "(" + String.join(", ", parameters) + ")";
    }

    private static List<Class<?>> all() {
        List<Class<?>> classes = new ArrayList<>();
        classes.add(MachineRing.class);
        classes.addAll(Arrays.asList(MachineRing.class.getDeclaredClasses()));
        return classes;
    }

    private static void classes() {
        CHECKS.begin("rules 2, 5 and 11");
        CHECKS.holds("at most twelve classes", all().size() <= 12);
        for (Class<?> each : all()) {
            CHECKS.holds(each + " is static and not public", each == MachineRing.class
                    || Modifier.isStatic(each.getModifiers()) && Modifier.isPrivate(each.getModifiers()));
            int own = 0;
            for (Field field : each.getDeclaredFields()) {
                boolean fixed = Modifier.isStatic(field.getModifiers());
                own += fixed ? 0 : 1;
                CHECKS.holds(field + " is a constant", !fixed || Modifier.isFinal(field.getModifiers())
                        && Set.of(int.class, long.class, boolean.class, char.class, String.class)
                                .contains(field.getType()));
            }
            CHECKS.holds(each + " has at most twenty fields", own <= 20);
            for (Constructor<?> made : each.getDeclaredConstructors()) {
                CHECKS.holds(made + " has few parameters", made.getParameterCount() <= 7);
            }
            for (Method method : each.getDeclaredMethods()) {
                CHECKS.holds(method + " has few parameters", method.getParameterCount() <= 7);
            }
        }
    }

    private static void signs(String source) {
        CHECKS.begin("rules 3, 4, 6 and 10");
        String code = source.replaceAll("(?s)/\\*.*?\\*/", "").replaceAll("//[^\n]*", "");
        for (String each : FORBIDDEN) {
            CHECKS.holds("no " + each, !Pattern.compile(each).matcher(code).find());
        }
    }

    /** Methods and constructors begin with a line that is indented once or twice and ends with ") {". */
    private static void methodLengths(String source) {
        CHECKS.begin("rule 11");
        String[] lines = source.split("\n");
        int methods = 0;
        for (int i = 0; i < lines.length; i++) {
            Matcher head = Pattern.compile("( {4}| {8})[A-Za-z][^=;]*\\) \\{").matcher(lines[i]);
            if (head.matches() && !lines[i].trim().matches("(if|for|while|switch)\\b.*")) {
                int end = i;
                while (!lines[end].equals(head.group(1) + "}")) {
                    end++;
                }
                CHECKS.holds("some sixty lines:" + lines[i], end - i < 60);
                methods++;
            }
        }
        CHECKS.holds("methods were found", methods > FACE.length + 20);
    }

    private static void objectsAreMadeInConstructors(String source) {
        CHECKS.begin("rule 12");
        String[] lines = source.split("\n");
        boolean inside = false;
        for (String line : lines) {
            if (line.matches(" {4}public MachineRing\\(\\) \\{| {8}[A-Z]\\w*\\(\\) \\{")) {
                inside = true;
            } else if (line.matches(" {4}(?: {4})?\\}")) {
                inside = false;
            }
            CHECKS.holds("made in a constructor:" + line, inside || !line.matches(".*\\bnew [A-Za-z].*;.*"));
        }
    }

    /** A run may make an object by each of its calls, and has room for some 600,000 objects, 7.3 million elements. */
    private static void room() throws IllegalAccessException {
        CHECKS.begin("the room");
        IdentityHashMap<Object, Object> objects = new IdentityHashMap<>();
        long elements = look(new MachineRing(), objects);
        CHECKS.holds("objects: " + objects.size(), objects.size() * 512 < 600000 && objects.size() > 6);
        CHECKS.holds("elements: " + elements, elements * 512 < 7300000 && elements > 60);
    }

    private static long look(Object object, IdentityHashMap<Object, Object> seen) throws IllegalAccessException {
        if (object == null || seen.put(object, object) != null) {
            return 0;
        }
        long elements = 0;
        if (object.getClass().isArray()) {
            for (int i = 0; i < Array.getLength(object); i++) {
                elements++;
                if (!object.getClass().getComponentType().isPrimitive()) {
                    elements += look(Array.get(object, i), seen);
                }
            }
            return elements;
        }
        for (Field field : object.getClass().getDeclaredFields()) {
            if (!Modifier.isStatic(field.getModifiers())) {
                field.setAccessible(true);
                elements++;
                elements += field.getType().isPrimitive() ? 0 : look(field.get(object), seen);
            }
        }
        return elements;
    }
}
