import java.io.IOException;
import java.nio.file.Files;
import java.nio.file.Path;
import java.util.LinkedHashMap;
import java.util.Map;

/** The sentences of the document, by its sections: each test takes the ones that it is for, and none may be left. */
final class Page {
    private static final Map<String, StringBuilder> left = new LinkedHashMap<>();
    private static String open = "";

    private Page() {
    }

    static void read(Path path) throws IOException {
        String all = Files.readString(path);
        put("What it is", between(all, "An object is used", "## The public face"));
        for (String part : between(all, "## Terms", "## Promise 1:").split("\n\n")) {
            String text = plain(part);
            if (text.indexOf(". ") > 0 && !text.startsWith("Ahead of the calls")) {
                put(text.substring(0, text.indexOf(". ")), text.substring(text.indexOf(". ") + 2));
            }
        }
        for (int i = 1; i <= 40; i++) {
            String promise = between(all, "## Promise " + i + ":", "\n## ");
            put("Promise " + i, promise.substring(promise.indexOf("`: ") + 3));
        }
        Due.same("sections of the document with sentences to be held", 53, left.size());
    }

    private static String between(String all, String first, String behind) {
        int start = all.indexOf(first);
        int end = all.indexOf(behind, start + 1);
        Due.same("the document has " + first, true, start >= 0 && end > start);
        return all.substring(start, end);
    }

    private static void put(String section, String text) {
        left.put(section, new StringBuilder(plain(text)));
    }

    private static String plain(String text) {
        return text.replaceAll("\\s+", " ").trim();
    }

    /** The sentences that follow stand in this section. */
    static void open(String section) {
        Due.same("the document has a section " + section, true, left.containsKey(section));
        open = section;
    }

    /** What is tested next; it must stand in the open section, and no other test may have taken it. */
    static void says(String sentence) {
        StringBuilder text = left.getOrDefault(open, new StringBuilder());
        int at = text.indexOf(sentence);
        Due.same("the document says, under " + open + ": " + sentence, true, at >= 0);
        if (at >= 0) {
            text.replace(at, at + sentence.length(), "|");
        }
    }

    static void end() {
        for (Map.Entry<String, StringBuilder> section : left.entrySet()) {
            String rest = section.getValue().toString().replaceAll("[|\\s]+", " ").trim();
            Due.same("sentences without a test under " + section.getKey(), "", rest);
        }
    }
}
