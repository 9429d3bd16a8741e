import java.nio.file.Files;
import java.nio.file.Path;
import java.util.regex.Matcher;
import java.util.regex.Pattern;

/** What of ../shared/LANGUAGE.md can be seen by reading the file's words. It stands beside FaceTest. */
public final class LanguageTest {
    private static final Check CHECK = new Check("LanguageTest");
    private static final String[] FORBIDDEN = {"throw", "throws", "try", "catch", "finally", "synchronized", "assert",
        "import", "package", "protected", "volatile", "transient", "native", "Object", "Random", "Thread", "Runtime",
        "Override", "var", "yield", "strictfp"};
    private static final Pattern LIBRARY = Pattern.compile("\\b(Math|Integer|Long|System|Arrays|String|StringBuilder|"
        + "List|ArrayList)\\b\\s*\\.?\\s*(\\w*)");
    private static final String ALLOWED = " Math.max Math.min Math.abs Math.floorDiv Math.floorMod Integer.compare "
        + "Integer.bitCount Long.compare Long.bitCount ";
    private static final Pattern HEAD = Pattern.compile("^    (?:    )?(?!.*\\b(?:class|new|return)\\b)[\\w\\[\\], ]+\\(.*\\{$");

    public static void main(String[] args) throws Exception {
        Path file = Path.of("src/main/java/MeetHouse.java");
        String source = Files.readString(file);
        for (int at = 0; at < source.length(); at++) {
            if (source.charAt(at) > 127) {
                CHECK.holds("a sign at " + at + " is above 127", false);
            }
        }
        String code = source.replaceAll("(?s)/\\*.*?\\*/", "").replaceAll("//[^\n]*", "");
        words(code);
        library(code);
        loops(code);
        methods(code);
        CHECK.end();
    }

    private static void words(String code) {
        for (String word : FORBIDDEN) {
            CHECK.holds("the word " + word, !Pattern.compile("\\b" + word + "\\b").matcher(code).find());
        }
        CHECK.holds("no lambda", !code.contains("->"));
        CHECK.holds("no method reference", !code.contains("::"));
        CHECK.holds("no text", code.indexOf('"') < 0);
        CHECK.holds("no static block", !Pattern.compile("static\\s*\\{").matcher(code).find());
        CHECK.holds("no annotation", code.indexOf('@') < 0);
        CHECK.holds("no double, no float", !Pattern.compile("\\b(double|float)\\b").matcher(code).find());
        Matcher division = Pattern.compile("[/%]=? *([\\w.]+)").matcher(code);
        while (division.find()) {
            String divisor = division.group(1);
            CHECK.holds("division by " + divisor, divisor.matches("10|BLOCK|q"));
        }
    }

    private static void library(String code) {
        Matcher library = LIBRARY.matcher(code);
        while (library.find()) {
            String used = library.group(1) + "." + library.group(2);
            CHECK.holds(used + " is of the library that is told", ALLOWED.contains(" " + used + " "));
        }
    }

    /** A loop without a counter of its own is to be looked at by hand: there are just the three that were. */
    private static void loops(String code) {
        Matcher loop = Pattern.compile("\\bwhile\\b").matcher(code);
        int loops = 0;
        while (loop.find()) {
            loops++;
        }
        CHECK.due("while", loops, 3);
        CHECK.holds("no endless for", !Pattern.compile("for\\s*\\(\\s*[^;]*;\\s*;").matcher(code).find());
    }

    private static void methods(String code) {
        String[] lines = code.split("\n");
        int methods = 0;
        for (int at = 0; at < lines.length; at++) {
            if (HEAD.matcher(lines[at]).find()) {
                methods++;
                String indent = lines[at].substring(0, lines[at].length() - lines[at].stripLeading().length());
                int end = at;
                while (end < lines.length - 1 && !lines[end].equals(indent + "}")) {
                    end++;
                }
                CHECK.holds("the method at line " + at + " is short", end - at + 1 <= 60);
            }
        }
        CHECK.holds("methods were found", methods > 100);
    }
}
