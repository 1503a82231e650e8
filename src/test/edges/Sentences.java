import java.io.IOException;
import java.nio.charset.StandardCharsets;
import java.nio.file.Files;
import java.nio.file.Path;
import java.util.List;
import java.util.Map;
import java.util.TreeMap;

/** Holds the words that the cases stand under against the document: they are there, and none of it is left out. */
final class Sentences {
    private static final Path DOCUMENT = Path.of("../shared/DOC.md");
    private static final int PROMISES = 22;

    private final Map<Integer, String> sections = new TreeMap<>();
    int failed;

    Sentences() throws IOException {
        String document = Files.readString(DOCUMENT, StandardCharsets.UTF_8);
        for (String section : document.split("(?m)^## ")) {
            int end = section.indexOf('\n');
            String title = end < 0 ? section : section.substring(0, end);
            String text = end < 0 ? "" : plain(section.substring(end));
            if (title.equals("What it is")) {
                // What comes before tells what the whole is for.
                sections.put(Edges.HEAD, text.substring(Math.max(0, text.indexOf("NUMBERS are"))));
            } else if (title.equals("Terms")) {
                sections.put(Edges.TERMS, text);
            } else if (title.startsWith("Promise ")) {
                int number = Integer.parseInt(title.substring(8, title.indexOf(':')));
                sections.put(number, text.replaceFirst("^`[^`]*`: ", ""));
            }
        }
        if (sections.size() != PROMISES + 2) {
            fail("sections found: " + sections.keySet());
        }
    }

    private static String plain(String text) {
        return text.replaceAll("```[a-z]*", " ").replaceAll("==== \\d+", " ").replaceAll("\\s+", " ").trim();
    }

    private void fail(String what) {
        failed++;
        System.out.println(what);
    }

    void compare(Map<Integer, List<String>> told) {
        for (Map.Entry<Integer, String> section : sections.entrySet()) {
            String text = section.getValue();
            boolean[] seen = new boolean[text.length()];
            for (String words : told.getOrDefault(section.getKey(), List.of())) {
                int at = text.indexOf(words);
                if (at < 0) {
                    fail("section " + section.getKey() + " does not say '" + words + "'");
                }
                for (; at >= 0; at = text.indexOf(words, at + 1)) {
                    java.util.Arrays.fill(seen, at, at + words.length(), true);
                }
            }
            leftOut(section.getKey(), text, seen);
        }
    }

    private void leftOut(int section, String text, boolean[] seen) {
        StringBuilder left = new StringBuilder();
        for (int k = 0; k <= text.length(); k++) {
            if (k < text.length() && !seen[k]) {
                left.append(text.charAt(k));
                continue;
            }
            if (left.toString().matches(".*[A-Za-z0-9].*")) {
                fail("no case of section " + section + " is about '" + left + "'");
            }
            left.setLength(0);
        }
    }
}
