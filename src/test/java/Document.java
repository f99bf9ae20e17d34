import java.util.ArrayList;
import java.util.LinkedHashMap;
import java.util.List;
import java.util.Map;

/**
 * The document's sentences, and which of them tests have quoted. Its parts are 'What it is', each paragraph of 'Terms'
 * by its first word, but for the examples, and each promise by its number. Heads of methods and parameters of which
 * nothing is said are left out.
 */
final class Document {
    private static final class Part {
        private final StringBuilder text = new StringBuilder();
        private boolean[] quoted;
    }

    private final Map<String, Part> parts = new LinkedHashMap<>();

    Document(String markdown) {
        String chapter = "";
        for (String paragraph : markdown.split("\n\n")) {
            String body = paragraph.trim();
            if (body.startsWith("## ")) {
                chapter = body.substring(3);
            } else if (chapter.equals("What it is") && body.startsWith("An object")) {
                add(chapter, body);
            } else if (body.startsWith("Examples.")) {
                chapter = "Examples";
            } else if (chapter.equals("Terms")) {
                add(body.replaceFirst("(?s)\\W.*", ""), body.replaceFirst("^[A-Z][a-z]+\\. ", ""));
            } else if (chapter.startsWith("Promise ")) {
                String number = chapter.substring(8, chapter.indexOf(':'));
                for (String piece : body.split("\n(?=- )")) add(number, withoutHead(piece));
            }
        }
        for (Part part : parts.values()) part.quoted = new boolean[part.text.length()];
    }

    private static String withoutHead(String paragraph) {
        if (!paragraph.startsWith("- ")) return paragraph.replaceFirst("(?s)^`[^`]*`: ", "");
        String told = paragraph.replaceFirst("^- `\\w+`: ", "");
        return told.matches(".*['0-9].*") ? told : "";
    }

    private void add(String key, String words) {
        if (!parts.containsKey(key)) parts.put(key, new Part());
        if (!words.isEmpty()) parts.get(key).text.append(words.replaceAll("\\s+", " ")).append('\n');
    }

    boolean has(String key) {
        return parts.containsKey(key);
    }

    /** Whether the part has these words; where it has them twice, they have to be quoted twice. */
    boolean quote(String key, String words) {
        Part part = parts.get(key);
        int at = part == null ? -1 : part.text.indexOf(words);
        if (at < 0) return false;
        int next = at;
        while (next >= 0 && part.quoted[next]) next = part.text.indexOf(words, next + 1);
        for (int i = 0; next >= 0 && i < words.length(); i++) part.quoted[next + i] = true;
        return true;
    }

    List<String> unquoted() {
        List<String> all = new ArrayList<>();
        for (Map.Entry<String, Part> entry : parts.entrySet()) {
            Part part = entry.getValue();
            StringBuilder words = new StringBuilder();
            for (int i = 0; i <= part.text.length(); i++) {
                if (i < part.text.length() && !part.quoted[i]) {
                    words.append(part.text.charAt(i));
                    continue;
                }
                if (words.toString().matches("(?s).*[A-Za-z0-9].*")) all.add(entry.getKey() + ": " + words);
                words.setLength(0);
            }
        }
        return all;
    }
}
