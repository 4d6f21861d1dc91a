import java.io.IOException;
import java.lang.reflect.Array;
import java.lang.reflect.Constructor;
import java.lang.reflect.Field;
import java.lang.reflect.Method;
import java.lang.reflect.Modifier;
import java.nio.charset.StandardCharsets;
import java.nio.file.Files;
import java.nio.file.Path;
import java.util.ArrayDeque;
import java.util.Arrays;
import java.util.Collections;
import java.util.Deque;
import java.util.IdentityHashMap;
import java.util.Set;
import java.util.TreeSet;
import java.util.regex.Matcher;
import java.util.regex.Pattern;

/** The public face of the document, and the rules of LANGUAGE.md that can be seen from outside. */
public final class FaceTest {
    private static final Path SOURCE = Path.of("src", "main", "java", "WaterMeadows.java");

    private static final String[] METHODS = {
        "hatch 3", "open 2", "flow 1", "air 1", "dig 1", "sheep 3", "right 3", "hours 1", "told 2",
        "pane 3", "stream 1", "broken 2", "farm 2", "without 2", "count 1"};

    private static final String[] FORBIDDEN = {
        "throw", "throws", "try", "catch", "finally", "synchronized", "assert", "import", "package",
        "protected", "native", "volatile", "transient", "Object", "System", "Thread", "Exception"};

    private static final Check check = new Check("FaceTest");

    public static void main(String[] args) throws Exception {
        constants();
        members();
        classesInside();
        source();
        lengths();
        longestRun();
        room();
        check.end();
    }

    private static void constants() {
        check.due("BAD", WaterMeadows.BAD, -1);
        check.due("NO", WaterMeadows.NO, -2);
        check.due("FULL", WaterMeadows.FULL, -3);
        check.due("NONE", WaterMeadows.NONE, -4);
    }

    private static void members() {
        Class<?> face = WaterMeadows.class;
        check.holds("the class is public and final", Modifier.isPublic(face.getModifiers()) && Modifier.isFinal(face.getModifiers()));
        Set<String> open = new TreeSet<>();
        for (Method m : face.getDeclaredMethods()) {
            if (!Modifier.isPrivate(m.getModifiers())) {
                check.holds(m + " answers an int and is no static one", m.getReturnType() == int.class
                    && Modifier.isPublic(m.getModifiers()) && !Modifier.isStatic(m.getModifiers()));
                check.holds(m + " takes ints", Arrays.stream(m.getParameterTypes()).allMatch(t -> t == int.class));
                open.add(m.getName() + " " + m.getParameterCount());
            }
        }
        check.holds("the methods are the document's: " + open, open.equals(new TreeSet<>(Arrays.asList(METHODS))));
        Set<String> fields = new TreeSet<>();
        for (Field f : face.getDeclaredFields()) {
            if (!Modifier.isPrivate(f.getModifiers())) {
                fields.add(f.getName());
            }
            check.holds(f + " is a constant of int if it is static", !Modifier.isStatic(f.getModifiers())
                || Modifier.isFinal(f.getModifiers()) && f.getType() == int.class);
        }
        check.holds("the fields are the document's: " + fields, fields.equals(Set.of("BAD", "NO", "FULL", "NONE")));
        Constructor<?>[] constructors = face.getDeclaredConstructors();
        check.due("constructors", constructors.length, 1);
        check.due("what it takes", constructors[0].getParameterCount(), 0);
        check.holds("it is public", Modifier.isPublic(constructors[0].getModifiers()));
    }

    private static void classesInside() {
        Set<String> faceNames = new TreeSet<>();
        for (String method : METHODS) {
            faceNames.add(method.substring(0, method.indexOf(' ')));
        }
        checkPrivateNames(WaterMeadows.class, faceNames);
        check.holds("some twelve classes at most", WaterMeadows.class.getDeclaredClasses().length <= 11);
        for (Class<?> inside : WaterMeadows.class.getDeclaredClasses()) {
            check.holds(inside + " is static", Modifier.isStatic(inside.getModifiers()));
            check.holds(inside + " is not public", !Modifier.isPublic(inside.getModifiers()));
            check.holds(inside + " has some twenty fields at most", inside.getDeclaredFields().length <= 20);
            checkPrivateNames(inside, faceNames);
        }
    }

    private static void checkPrivateNames(Class<?> c, Set<String> faceNames) {
        for (Method m : c.getDeclaredMethods()) {
            boolean own = !Modifier.isPublic(m.getModifiers());
            check.holds(m + " bears a name of its own", !own || !faceNames.contains(m.getName()));
            check.holds(m + " takes at most seven", m.getParameterCount() <= 7);
        }
    }

    private static void source() throws IOException {
        String text = Files.readString(SOURCE, StandardCharsets.ISO_8859_1);
        check.holds("the source is plain ASCII", text.chars().allMatch(c -> c < 128));
        String code = text.replaceAll("(?s)/\\*.*?\\*/", " ").replaceAll("//[^\n]*", " ");
        for (String word : FORBIDDEN) {
            Matcher m = Pattern.compile("\\b" + word + "\\b").matcher(code);
            check.holds("'" + word + "' is not in the source", !m.find());
        }
        check.holds("no lambda and no method reference", !code.contains("->") && !code.contains("::"));
        check.holds("no text", code.indexOf('"') < 0);
    }

    /** Rule 11, by the way the source is set: a method's head and its last brace stand in one column. */
    private static void lengths() throws IOException {
        Matcher method = Pattern.compile("(?ms)^( {4}| {8})(\\w[^;={}\n]*\\)) \\{\n(.*?)^\\1\\}").matcher(
            Files.readString(SOURCE, StandardCharsets.ISO_8859_1));
        int methods = 0;
        while (method.find()) {
            methods++;
            check.holds(method.group(2) + " is some sixty lines at most", method.group(3).lines().count() <= 60);
        }
        check.holds("methods were found", methods > METHODS.length);
    }

    /** Rule 7 for the dearest run: all hatches, all hours, every number that int has an edge at. */
    private static void longestRun() {
        int[] edges = {Integer.MIN_VALUE, -101, -100, -21, -2, -1, 0, 1, 2, 3, 4, 5, 6, 7, 8, 24, 25,
            50, 51, 59, 60, 61, 89, 90, 200, 201, 1000, 1001, 2399, 2400, 2401, Integer.MAX_VALUE};
        askAll(new WaterMeadows(), edges);
        WaterMeadows x = new WaterMeadows();
        for (int h = 0; h < 6; h++) {
            x.hatch(h % 4, 200, 4);
            x.open(h, 4);
        }
        x.flow(1000);
        for (int i = 0; i < 12; i++) {
            x.hours(200);
        }
        check.due("all that was brought", x.stream(2), 2400000);
        check.due("brought is drunk or comes to the mill", x.stream(3) + x.stream(4), x.stream(2));
        // Far more than 512 calls: what they answer is free, but none may throw.
        askAll(x, edges);
    }

    private static void askAll(WaterMeadows x, int[] edges) {
        for (int a : edges) {
            x.stream(a);
            x.count(a);
            for (int b : edges) {
                x.told(a, b);
                x.broken(a, b);
                x.farm(a, b);
                x.without(a, b);
                for (int c : edges) {
                    x.pane(a, b, c);
                }
            }
        }
    }

    /** Rule 12: what an object takes is small, and all of it is made by its constructor. */
    private static void room() throws IllegalAccessException {
        WaterMeadows x = new WaterMeadows();
        Set<Object> first = madeOf(x);
        check.holds("objects and arrays: " + first.size(), first.size() <= 100);
        check.holds("fields and elements: " + sizeOf(first), sizeOf(first) <= 2000);
        for (int i = 0; i < 90; i++) {
            x.hatch(i % 4, 200, 4);
            x.open(i % 6, 4);
            x.sheep(i % 6, i % 4, 50);
            x.right(1000, 0, 24);
            x.dig(i % 6);
        }
        for (int i = 0; i < 12; i++) {
            x.hours(200);
            x.without(i % 6, i % 6);
        }
        Set<Object> last = madeOf(x);
        check.holds("a whole run adds no object and takes none", first.containsAll(last) && last.containsAll(first));
    }

    private static Set<Object> madeOf(Object root) throws IllegalAccessException {
        Set<Object> seen = Collections.newSetFromMap(new IdentityHashMap<>());
        Deque<Object> open = new ArrayDeque<>();
        open.add(root);
        while (!open.isEmpty()) {
            Object o = open.remove();
            if (!seen.add(o)) {
                continue;
            }
            if (o instanceof Object[] parts) {
                Arrays.stream(parts).filter(p -> p != null).forEach(open::add);
            } else if (!o.getClass().isArray()) {
                for (Field f : o.getClass().getDeclaredFields()) {
                    if (!Modifier.isStatic(f.getModifiers()) && !f.getType().isPrimitive()) {
                        f.setAccessible(true);
                        if (f.get(o) != null) {
                            open.add(f.get(o));
                        }
                    }
                }
            }
        }
        return seen;
    }

    private static long sizeOf(Set<Object> objects) {
        long size = 0;
        for (Object o : objects) {
            size += o.getClass().isArray() ? Array.getLength(o)
                : Arrays.stream(o.getClass().getDeclaredFields()).filter(f -> !Modifier.isStatic(f.getModifiers())).count();
        }
        return size;
    }
}
