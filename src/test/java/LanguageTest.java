import java.lang.reflect.Array;
import java.lang.reflect.Constructor;
import java.lang.reflect.Field;
import java.lang.reflect.Method;
import java.lang.reflect.Modifier;
import java.nio.charset.StandardCharsets;
import java.nio.file.Files;
import java.nio.file.Path;
import java.util.Arrays;
import java.util.IdentityHashMap;
import java.util.List;
import java.util.Set;
import java.util.TreeSet;
import java.util.regex.Matcher;
import java.util.regex.Pattern;

/** Holds the source against those rules of ../shared/LANGUAGE.md that a program can read off, and counts the room. */
public final class LanguageTest {
    private static final Path SOURCE = Path.of("src/main/java/PortsBench.java");
    private static final List<String> FACE = List.of(
        "int about(int,int)", "int against(int,int,int,int,int,int,int)", "int all(int,int,int,int,int,int)", "int box(int)",
        "int close(int,int,int)", "int copy(int,int)", "int correct(int,int,int)", "int count(int)", "int is(int,int,int)",
        "int join(int,int,int)", "int learn(int,int,int)", "int same(int,int)", "int set(int,int,int,int,int,int,int)",
        "int step(int,int,int)", "int takeOff(int,int,int,int)", "int time(int,int,int,int)", "int turn(int,int)", "int undo()",
        "int where(int)", "int worst(int,int,int)", "long part(int,int,int,int,int)");
    private static final List<String> CONSTANTS = List.of("BAD", "BIG", "FULL", "NO", "NONE");
    // A walk over one object must find no more than this: all calls of a run share one room, and no call makes anything.
    private static final int MOST_OBJECTS = 1000;
    private static final int MOST_ELEMENTS = 30000;

    private static int failed;

    public static void main(String[] args) throws Exception {
        face();
        classesInside();
        words();
        methods();
        room();
        nothingMadeByCalls();
        System.out.println(failed == 0 ? "all rules read are kept" : failed + " rules are broken");
        if (failed != 0) {
            System.exit(1);
        }
    }

    private static void must(boolean holds, String what) {
        if (!holds) {
            failed++;
            System.out.println("broken: " + what);
        }
    }

    private static void face() {
        Set<String> found = new TreeSet<>();
        for (Method method : PortsBench.class.getDeclaredMethods()) {
            if (!Modifier.isPrivate(method.getModifiers())) {
                StringBuilder text = new StringBuilder(method.getReturnType() + " " + method.getName() + "(");
                for (Class<?> type : method.getParameterTypes()) {
                    text.append(text.charAt(text.length() - 1) == '(' ? "" : ",").append(type);
                }
                found.add(text + ")");
                must(method.getModifiers() == Modifier.PUBLIC, "1: " + method.getName() + " is public and no more");
            }
        }
        must(found.equals(new TreeSet<>(FACE)), "1: the methods are " + found);
        Set<String> constants = new TreeSet<>();
        for (Field field : PortsBench.class.getDeclaredFields()) {
            if (!Modifier.isPrivate(field.getModifiers())) {
                constants.add(field.getName());
            }
            if (Modifier.isStatic(field.getModifiers())) {
                must(Modifier.isFinal(field.getModifiers()), "5: " + field.getName() + " is final");
            }
        }
        must(constants.equals(new TreeSet<>(CONSTANTS)), "1: the constants are " + constants);
        Constructor<?>[] made = PortsBench.class.getDeclaredConstructors();
        must(made.length == 1 && Modifier.isPublic(made[0].getModifiers()) && made[0].getParameterCount() == 0,
            "1: one public constructor");
        must(Modifier.isFinal(PortsBench.class.getModifiers()), "1: the class is final");
    }

    private static void classesInside() {
        Class<?>[] inside = PortsBench.class.getDeclaredClasses();
        must(inside.length < 12, "11: classes " + inside.length);
        for (Class<?> of : inside) {
            must(Modifier.isStatic(of.getModifiers()), "2: " + of + " is static");
            must(!Modifier.isPublic(of.getModifiers()), "1: " + of + " is not public");
            fewFields(of);
            for (Method method : of.getDeclaredMethods()) {
                for (Method of2 : PortsBench.class.getDeclaredMethods()) {
                    must(!Modifier.isPublic(of2.getModifiers()) || !of2.getName().equals(method.getName()),
                        "1: " + of + " has a method " + method.getName());
                }
            }
        }
        fewFields(PortsBench.class);
        Set<String> publicNames = new TreeSet<>();
        for (Method method : PortsBench.class.getDeclaredMethods()) {
            if (Modifier.isPublic(method.getModifiers())) {
                publicNames.add(method.getName());
            }
        }
        for (Method method : PortsBench.class.getDeclaredMethods()) {
            must(Modifier.isPublic(method.getModifiers()) || !publicNames.contains(method.getName()),
                "1: a private " + method.getName());
        }
    }

    private static void fewFields(Class<?> of) {
        long fields = Arrays.stream(of.getDeclaredFields()).filter(f -> !Modifier.isStatic(f.getModifiers())).count();
        must(fields <= 20, "11: " + of + " has " + fields + " fields");
    }

    private static String code() throws Exception {
        String text = Files.readString(SOURCE, StandardCharsets.UTF_8);
        for (int k = 0; k < text.length(); k++) {
            char sign = text.charAt(k);
            must(sign == '\n' || sign >= 32 && sign < 127, "3: sign " + (int) sign + " at " + k);
        }
        return text.replaceAll("(?s)/\\*.*?\\*/", " ").replaceAll("//[^\n]*", "");
    }

    private static void words() throws Exception {
        String code = code();
        String[] never = {"throw", "throws", "try", "catch", "finally", "synchronized", "assert", "import", "package", "volatile",
            "transient", "native", "protected", "strictfp", "equals", "hashCode", "toString", "double", "float", "Object",
            "Thread", "Random", "BigInteger", "super", "this\\(", "yield", "sealed", "var"};
        for (String word : never) {
            must(!Pattern.compile("\\b" + word + (word.endsWith("(") ? "" : "\\b")).matcher(code).find(), "a word: " + word);
        }
        must(!code.contains("->") && !code.contains("::"), "2: a lambda or method reference");
        must(!Pattern.compile("\\w+Exact\\b").matcher(code).find(), "4: a function that ends in Exact");
        Matcher library = Pattern.compile("\\b(System|Math|Long|Integer|Arrays|Character|String)\\.(\\w+)").matcher(code);
        while (library.find()) {
            must(List.of("System.arraycopy", "Math.abs", "Math.max", "Math.min", "Math.floorDiv").contains(library.group()),
                "4: " + library.group());
        }
        must(!code.contains("\""), "a text: no texts are needed");
    }

    private static void methods() throws Exception {
        String[] lines = Files.readString(SOURCE, StandardCharsets.UTF_8).split("\n");
        Pattern head = Pattern.compile("^( {4}| {8})(?=\\w)(?!if|for|while|switch|return|else)[\\w<>\\[\\] ]+\\(([^()]*)\\) \\{$");
        int seen = 0;
        for (int k = 0; k < lines.length; k++) {
            Matcher matcher = head.matcher(lines[k]);
            if (matcher.matches()) {
                seen++;
                int end = k;
                while (!lines[end].equals(matcher.group(1) + "}")) {
                    end++;
                }
                must(end - k < 60, "11: a method of " + (end - k + 1) + " lines at " + (k + 1));
                must(matcher.group(2).split(",").length <= 7, "11: parameters at " + (k + 1));
            }
        }
        must(seen > 60, "the methods are found");
    }

    private static void room() throws Exception {
        IdentityHashMap<Object, Boolean> seen = new IdentityHashMap<>();
        int elements = walk(new PortsBench(), seen);
        System.out.println("room of a new one: " + seen.size() + " objects and arrays, " + elements + " fields and elements");
        must(seen.size() <= MOST_OBJECTS, "room: " + seen.size() + " objects");
        must(elements <= MOST_ELEMENTS, "room: " + elements + " elements");
    }

    private static int walk(Object of, IdentityHashMap<Object, Boolean> seen) throws Exception {
        if (of == null || seen.put(of, true) != null) {
            return 0;
        }
        int elements = 0;
        if (of.getClass().isArray()) {
            elements += Array.getLength(of);
            if (!of.getClass().getComponentType().isPrimitive()) {
                for (Object element : (Object[]) of) {
                    elements += walk(element, seen);
                }
            }
            return elements;
        }
        for (Field field : of.getClass().getDeclaredFields()) {
            if (!Modifier.isStatic(field.getModifiers())) {
                elements++;
                if (!field.getType().isPrimitive()) {
                    field.setAccessible(true);
                    elements += walk(field.get(of), seen);
                }
            }
        }
        return elements;
    }

    private static void nothingMadeByCalls() {
        com.sun.management.ThreadMXBean bean =
            (com.sun.management.ThreadMXBean) java.lang.management.ManagementFactory.getThreadMXBean();
        long id = Thread.currentThread().getId();
        everyCall(new PortsBench());
        PortsBench x = new PortsBench();
        bean.getThreadAllocatedBytes(id);
        long before = bean.getThreadAllocatedBytes(id);
        everyCall(x);
        long made = bean.getThreadAllocatedBytes(id) - before;
        must(made < 2000, "12: some 300 calls made " + made + " bytes of objects");
    }

    private static void everyCall(PortsBench x) {
        for (int k = 0; k < 17; k++) {
            x.box(k < 4 ? 2 : 1);
        }
        for (int k = 0; k < 12; k++) {
            x.all(k % 4, k / 2 % 2, k % 2, 9 * k - 7, k, k + 1);
            x.set(4 + k % 3, k % 4, 0, 0, k - 3, k + 5, k + 7);
            x.join(3, k % 2, 1 + k % 2);
            x.takeOff(2, k % 3, (k + 1) % 3, k % 2);
            x.turn(0, k % 4);
            x.close(7 + k % 3, k % 4, 4 + k % 3);
            x.learn(3, 4, 7);
            x.correct(10, k % 4, 7);
            x.step(k % 4, k + 1, 20);
            x.time(11, k % 4, 0, 1);
            x.copy(k % 4, 0);
            x.undo();
            x.where(0);
            x.part(3, 0, 0, 0, k % 6);
            x.about(k, k % 4);
            x.is(k, k % 4, 1 + k % 3);
            x.against(k % 4, 0, 0, 1, k, 0, 0);
            x.worst(k, 0, 0);
            x.same(k, k + 1);
            x.count(k % 2);
        }
    }
}
