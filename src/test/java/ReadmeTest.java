import java.io.IOException;
import java.lang.reflect.Method;
import java.nio.charset.StandardCharsets;
import java.nio.file.Files;
import java.nio.file.Path;
import java.util.HashMap;
import java.util.Map;
import java.util.regex.Matcher;
import java.util.regex.Pattern;

/** What README.md says of the class: its examples are run as they stand there, and no call of the face is left out. */
public final class ReadmeTest {
    private static final Path README = Path.of("README.md");
    private static final Path DOCUMENT = Path.of("../shared/DOC.md");
    private static final Map<String, Integer> CONSTANTS = Map.of("BAD", PortsBench.BAD, "NO", PortsBench.NO,
        "FULL", PortsBench.FULL, "NONE", PortsBench.NONE, "BIG", PortsBench.BIG);
    private static final String MAKING = "PortsBench bench = new PortsBench();";
    private static final Pattern CALL = Pattern.compile("(?:(?:int|long) (\\w+) = )?bench\\.(\\w+)\\((.*?)\\);");
    private static final Pattern DUE = Pattern.compile("// (-?\\d+|[A-Z]+)(?::.*)?");
    private static final Pattern OF_THE_FACE = Pattern.compile("public (?:int|long) (\\w+)\\(([^)]*)\\);");

    private static int calls;
    private static int failed;

    public static void main(String[] args) throws Exception {
        String readme = Files.readString(README, StandardCharsets.UTF_8);
        int examples = 0;
        String[] parts = readme.split("```");
        for (int k = 1; k < parts.length; k += 2) {
            if (parts[k].startsWith("java\n")) {
                examples++;
                runExample(parts[k].substring(5).split("\n"));
            }
        }
        must(examples == 2 && calls > 20, "examples: " + examples + ", calls: " + calls);
        everyCallIsTold(readme);
        constantsAreTold(readme);
        System.out.println("calls of README.md: " + calls + ", not as it says: " + failed);
        if (failed != 0) {
            System.exit(1);
        }
    }

    private static void must(boolean holds, String what) {
        if (!holds) {
            failed++;
            System.out.println(what);
        }
    }

    private static void runExample(String[] lines) throws ReflectiveOperationException {
        PortsBench bench = new PortsBench();
        Map<String, Integer> names = new HashMap<>();
        must(lines[0].equals(MAKING), "an example begins with " + lines[0]);
        for (int k = 1; k < lines.length; k++) {
            Matcher call = CALL.matcher(lines[k]);
            if (!call.lookingAt()) {
                must(false, "not read: " + lines[k]);
                continue;
            }
            long got = answer(bench, call.group(2), call.group(3), names);
            if (call.group(1) != null) {
                names.put(call.group(1), (int) got);
            }
            Matcher due = DUE.matcher(lines[k].substring(call.end()).trim());
            must(due.matches() && got == valueOf(due.group(1), CONSTANTS), "answered " + got + ": " + lines[k]);
        }
    }

    private static long answer(PortsBench bench, String name, String given, Map<String, Integer> names)
        throws ReflectiveOperationException {
        String[] texts = given.isEmpty() ? new String[0] : given.split(", ");
        Object[] numbers = new Object[texts.length];
        Class<?>[] types = new Class<?>[texts.length];
        for (int k = 0; k < texts.length; k++) {
            int sum = 0;
            for (String text : texts[k].split(" \\+ ")) {
                sum += valueOf(text, names);
            }
            numbers[k] = sum;
            types[k] = int.class;
        }
        calls++;
        Method method = PortsBench.class.getMethod(name, types);
        return ((Number) method.invoke(bench, numbers)).longValue();
    }

    private static int valueOf(String text, Map<String, Integer> names) {
        Integer named = names.get(text);
        return named != null ? named : Integer.parseInt(text);
    }

    private static void everyCallIsTold(String readme) throws IOException {
        Matcher face = OF_THE_FACE.matcher(Files.readString(DOCUMENT, StandardCharsets.UTF_8));
        int seen = 0;
        while (face.find()) {
            seen++;
            String call = face.group(1) + "(" + face.group(2).replaceAll("int ", "") + ")";
            must(readme.contains("| `" + call + "` |"), "README.md does not tell of " + call);
        }
        must(seen == 21, "calls of the face: " + seen);
    }

    private static void constantsAreTold(String readme) {
        for (String name : CONSTANTS.keySet()) {
            must(readme.contains("`" + name + "` (" + CONSTANTS.get(name)), "README.md does not tell of " + name);
        }
    }
}
