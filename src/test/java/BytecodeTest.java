import java.io.File;
import java.io.PrintWriter;
import java.io.StringWriter;
import java.util.ArrayList;
import java.util.HashMap;
import java.util.HashSet;
import java.util.List;
import java.util.Map;
import java.util.Set;
import java.util.TreeMap;
import java.util.TreeSet;
import java.util.regex.Matcher;
import java.util.regex.Pattern;
import java.util.spi.ToolProvider;

/** Those rules of ../shared/LANGUAGE.md that only the compiled class shows: who calls whom, how deep, and what of Java. */
public final class BytecodeTest {
    private static final int DEEPEST = 8;
    private static final Set<String> LIBRARY = Set.of("java/lang/Object.<init>", "java/lang/Math.abs", "java/lang/Math.max",
        "java/lang/Math.min", "java/lang/Math.floorDiv", "java/lang/System.arraycopy");
    private static final Pattern CLASS = Pattern.compile("^(?:public )?(?:final )?class (\\S+) \\{$");
    private static final Pattern METHOD = Pattern.compile("^  (?:[\\w.$\\[\\]]+ )*([\\w$]+)\\(.*\\);$");
    private static final Pattern DESCRIPTOR = Pattern.compile("^    descriptor: (\\(\\S+)$");
    private static final Pattern CALL = Pattern.compile("^ +\\d+: invoke\\w+ +#\\d+.*// Method (?:(\\S+)\\.)?([^\\s.:]+):(\\S+)$");

    private static final Map<String, List<String>> callsOf = new TreeMap<>();
    private static final Map<String, Integer> depths = new HashMap<>();
    private static final Set<String> open = new HashSet<>();
    private static int failed;

    public static void main(String[] args) throws Exception {
        File folder = new File(PortsBench.class.getProtectionDomain().getCodeSource().getLocation().toURI());
        for (String name : new TreeSet<>(List.of(folder.list()))) {
            if (name.matches("PortsBench(\\$\\w+)?\\.class")) {
                read(new File(folder, name).getPath());
            }
        }
        must(callsOf.size() > 80, "methods found: " + callsOf.size());
        int deepest = 0;
        String from = "";
        for (String method : callsOf.keySet()) {
            if (depthOf(method) > deepest) {
                deepest = depthOf(method);
                from = method;
            }
        }
        must(deepest >= 5 && deepest <= DEEPEST, "11: calls go " + deepest + " deep from " + from);
        System.out.println(callsOf.size() + " methods, calls go " + deepest + " deep, rules broken: " + failed);
        if (failed != 0) {
            System.exit(1);
        }
    }

    private static void must(boolean holds, String what) {
        if (!holds) {
            failed++;
            System.out.println("broken: " + what);
        }
    }

    private static void read(String file) {
        StringWriter out = new StringWriter();
        PrintWriter writer = new PrintWriter(out);
        ToolProvider.findFirst("javap").orElseThrow().run(writer, writer, "-c", "-p", "-s", file);
        String inside = "";
        String name = "";
        List<String> calls = new ArrayList<>();
        for (String line : out.toString().split("\\R")) {
            Matcher matcher = CLASS.matcher(line);
            if (matcher.matches()) {
                inside = matcher.group(1);
            }
            matcher = METHOD.matcher(line);
            if (matcher.matches()) {
                name = matcher.group(1).equals(inside) ? "<init>" : matcher.group(1);
            }
            must(!line.startsWith("  static {}"), "5: a static initialiser, " + file);
            matcher = DESCRIPTOR.matcher(line);
            if (matcher.matches()) {
                calls = new ArrayList<>();
                callsOf.put(inside + "." + name + matcher.group(1), calls);
            }
            matcher = CALL.matcher(line);
            if (matcher.matches()) {
                String owner = matcher.group(1) == null ? inside : matcher.group(1);
                calls.add(owner + "." + matcher.group(2).replace("\"", "") + matcher.group(3));
            }
            must(matcher.matches() || !line.contains(": invoke"), "2, 10: " + file + " " + line);
            must(!line.contains("Exception table") && !line.contains(": athrow"), "6: " + file + " " + line);
            must(!line.contains(": checkcast"), "6: a cast, " + file + " " + line);
        }
    }

    /** How many calls stand open at most, this one counted. */
    private static int depthOf(String method) {
        Integer known = depths.get(method);
        if (known != null) {
            return known;
        }
        if (!callsOf.containsKey(method)) {
            must(LIBRARY.contains(method.substring(0, Math.max(0, method.indexOf('(')))), "4: " + method);
            return 1;
        }
        must(open.add(method), "8: calls itself: " + method);
        int deepest = 0;
        for (String called : callsOf.get(method)) {
            if (!open.contains(called)) {
                deepest = Math.max(deepest, depthOf(called));
            }
        }
        for (String called : callsOf.get(method)) {
            must(!open.contains(called), "8: " + method + " and " + called + " call one another");
        }
        open.remove(method);
        depths.put(method, deepest + 1);
        return deepest + 1;
    }
}
