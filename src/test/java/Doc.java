import java.io.IOException;
import java.io.UncheckedIOException;
import java.nio.file.Files;
import java.nio.file.Path;
import java.util.ArrayList;
import java.util.List;
import java.util.Map;
import java.util.TreeMap;

/** The document's words: a test quotes those that it holds the class against, and none stay without a test. */
final class Doc {
    static final String WHAT = "What it is";
    static final String TERMS = "Terms";
    static final String WAY = "2";
    static final String ASKING = "3";

    private static final Path PLACE = Path.of("../shared/DOC.md");
    private static final char QUOTED = 1;
    private static final Map<String, String> TEXTS = texts();
    private static final Map<String, StringBuilder> LEFT = new TreeMap<>();

    private Doc() {
    }

    static String promise(int number) {
        return "Promise " + number;
    }

    /** The words must stand in that section as they are quoted (but for blanks and ends of lines). */
    static void says(String section, String words, Runnable test) {
        int place = mark(section, words);
        Check.same("section " + section + " says: " + words, place >= 0, true);
        Check.about(words, test);
    }

    /** Where the words begin; of several places one that has not been quoted yet, if there is one. */
    private static int mark(String section, String words) {
        String text = TEXTS.getOrDefault(section, "");
        StringBuilder left = LEFT.computeIfAbsent(section, key -> new StringBuilder(text));
        int place = left.indexOf(words);
        if (place < 0) {
            place = text.indexOf(words);
        }
        for (int i = place; place >= 0 && i < place + words.length(); i++) {
            left.setCharAt(i, QUOTED);
        }
        return place;
    }

    /** What no test has quoted: what stands between quotations and has a letter or a digit. */
    static List<String> unquoted() {
        List<String> all = new ArrayList<>();
        for (String section : TEXTS.keySet()) {
            String left = LEFT.containsKey(section) ? LEFT.get(section).toString() : TEXTS.get(section);
            for (String part : left.split(String.valueOf(QUOTED))) {
                if (part.matches(".*[A-Za-z0-9].*")) {
                    all.add(section + ": " + part.trim());
                }
            }
        }
        return all;
    }

    private static Map<String, String> texts() {
        Map<String, StringBuilder> texts = new TreeMap<>();
        String section = "";
        try {
            for (String line : Files.readAllLines(PLACE)) {
                String rest = line;
                if (line.startsWith("## ")) {
                    section = line.substring(3).replaceAll(":.*", "");
                    rest = "";
                } else if (line.startsWith("==== ")) {
                    section = line.substring(5, 6);
                    rest = line.substring(7);
                }
                // what an object is for in all, before it is told piece by piece
                boolean title = line.startsWith("A valley that posts by glacier:");
                if (!title && !line.startsWith("```")) {
                    texts.computeIfAbsent(section, key -> new StringBuilder()).append(' ').append(rest);
                }
            }
        } catch (IOException e) {
            throw new UncheckedIOException(e);
        }
        Map<String, String> known = new TreeMap<>();
        for (Map.Entry<String, StringBuilder> one : texts.entrySet()) {
            boolean held = one.getKey().startsWith("Promise ") || List.of(WHAT, TERMS, WAY, ASKING).contains(one.getKey());
            if (held) {
                // a promise begins with a line of the face, which RulesTest holds
                known.put(one.getKey(), one.getValue().toString().replaceAll("\\s+", " ").trim()
                        .replaceAll("^`[^`]*`: ", ""));
            }
        }
        return known;
    }
}
