import java.io.IOException;
import java.nio.file.Files;
import java.nio.file.Path;
import java.util.LinkedHashMap;
import java.util.Map;

/**
 * The sentences of ../shared/DOC.md that tests are of: each check is told with the promise and the words it is about,
 * and in the end no word of the promises and terms may be left that no test has named.
 */
final class Sentences {
    private static final Path DOC = Path.of("../shared/DOC.md");

    private final Check check;
    private final Map<String, String> texts = new LinkedHashMap<>();
    private final Map<String, boolean[]> named = new LinkedHashMap<>();
    private String now = "";

    Sentences(Check check) throws IOException {
        this.check = check;
        for (String section : Files.readString(DOC).split("(?m)^## ")) {
            String title = section.lines().findFirst().orElse("");
            String body = section.substring(title.length());
            if (title.equals("What it is")) {
                keep(title, body.substring(body.indexOf("========")));
            } else if (title.equals("Terms")) {
                keep(title, body.replaceAll("(?m)^Ahead of the calls.*$|^```.*$", " "));
            } else if (title.startsWith("Promise")) {
                keep(title.substring(0, title.indexOf(':')), body.replaceFirst("(?s)^\\s*`[^`]*`: ", ""));
            }
        }
        check.due("sections of the document", texts.size(), 36);
    }

    private void keep(String section, String body) {
        String text = plain(body.replaceAll("======== \\d", " "));
        texts.put(section, text);
        named.put(section, new boolean[text.length()]);
    }

    private static String plain(String text) {
        return text.replaceAll("\\s+", " ").strip();
    }

    /** From here on the checks are of these words of the document. */
    void name(String section, String words) {
        now = section + ", '" + words + "'";
        String text = texts.getOrDefault(section, "");
        int at = text.indexOf(plain(words));
        check.holds(now + " stands in the document", at >= 0);
        for (int sign = at; at >= 0 && sign < at + plain(words).length(); sign++) {
            named.get(section)[sign] = true;
        }
    }

    void name(int promise, String words) {
        name("Promise " + promise, words);
    }

    void due(String call, long got, long want) {
        check.due(now + ": " + call, got, want);
    }

    void holds(String what, boolean isSo) {
        check.holds(now + ": " + what, isSo);
    }

    /** No letter and no figure of a section is left that no test has named. */
    void end() {
        for (Map.Entry<String, String> section : texts.entrySet()) {
            StringBuilder left = new StringBuilder();
            for (int at = 0; at < section.getValue().length(); at++) {
                boolean isNamed = named.get(section.getKey())[at];
                left.append(isNamed || !Character.isLetterOrDigit(section.getValue().charAt(at)) ? ' '
                        : section.getValue().charAt(at));
            }
            String words = plain(left.toString());
            check.holds(section.getKey() + ": no test names '" + words + "'", words.isEmpty());
        }
    }
}
