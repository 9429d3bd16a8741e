import java.lang.reflect.Field;
import java.lang.reflect.Method;
import java.lang.reflect.Modifier;
import java.nio.file.Files;
import java.nio.file.Path;
import java.util.ArrayList;
import java.util.List;
import java.util.regex.Matcher;
import java.util.regex.Pattern;

/** README.md: its example answers what it says, each call and each constant is told, its commands are those of .ci/run. */
public final class ReadmeTest {
    private static final Check CHECK = new Check("ReadmeTest");
    private static final Pattern EXAMPLE = Pattern.compile("(?m)^x\\.(\\w+)\\(([^)]*)\\);(?: +// (-?\\d+))?");
    private static final Pattern SIGNATURE = Pattern.compile("(?m)^ +public (?:int|long) (\\w+)\\(([^)]*)\\);");
    private static final Pattern COMMAND = Pattern.compile("\\bjavac? -[^;&|\\n]*");
    private static final String ROW = "\n| `";

    public static void main(String[] args) throws Exception {
        String page = Files.readString(Path.of("README.md"));
        example(block(page, "java"));
        calls(page, Files.readString(Path.of("../shared/DOC.md")));
        constants(page);
        List<String> due = commands(Files.readString(Path.of(".ci/run")));
        List<String> told = commands(block(page, "sh"));
        CHECK.holds("the commands: told " + told + ", run " + due, told.equals(due));
        CHECK.due("commands", told.size(), 5);
        CHECK.holds("the script itself is told", page.contains("\n    bash .ci/run\n"));
        CHECK.end();
    }

    /** What stands between the fences of the only block in this language. */
    private static String block(String page, String language) {
        String[] parts = page.split("```" + language + "\n");
        CHECK.due("blocks in " + language, parts.length, 2);
        return parts[parts.length - 1].split("```")[0];
    }

    private static void example(String lines) throws Exception {
        CHECK.holds("the example makes an object", lines.startsWith("MeetHouse x = new MeetHouse();\n"));
        MeetHouse x = new MeetHouse();
        Matcher line = EXAMPLE.matcher(lines);
        int found = 0;
        while (line.find()) {
            found++;
            CHECK.holds(line.group() + " tells its answer", line.group(3) != null);
            if (line.group(3) != null) {
                CHECK.due(line.group(1) + "(" + line.group(2) + ")", answer(x, line.group(1), line.group(2)),
                        Long.parseLong(line.group(3)));
            }
        }
        CHECK.due("lines of the example that are calls", found, lines.lines().filter(s -> !s.isBlank()).count() - 1);
    }

    private static long answer(MeetHouse x, String name, String told) throws Exception {
        for (Method method : MeetHouse.class.getMethods()) {
            if (method.getName().equals(name) && method.getDeclaringClass() == MeetHouse.class) {
                String[] words = told.isEmpty() ? new String[0] : told.split(", ");
                Object[] arguments = new Object[words.length];
                for (int at = 0; at < words.length; at++) {
                    arguments[at] = method.getParameterTypes()[at] == long.class ? (Object) Long.valueOf(words[at])
                            : (Object) Integer.valueOf(words[at]);
                }
                return ((Number) method.invoke(x, arguments)).longValue();
            }
        }
        throw new IllegalArgumentException("no call " + name);
    }

    /** Each call of the document's face has a row of its own, and no other call has one. */
    private static void calls(String page, String document) {
        Matcher call = SIGNATURE.matcher(document);
        int found = 0;
        while (call.find()) {
            found++;
            String row = call.group(1) + "(" + call.group(2).replaceAll("\\b(int|long) ", "") + ")";
            CHECK.holds("a row tells " + row, page.contains(ROW + row + "` |"));
        }
        CHECK.due("calls of the face", found, 33);
        CHECK.due("rows of calls", page.split("\n\\| `\\w+\\([^)]*\\)` \\|", -1).length - 1, found);
    }

    private static void constants(String page) throws Exception {
        int found = 0;
        for (Field field : MeetHouse.class.getFields()) {
            if (Modifier.isStatic(field.getModifiers())) {
                found++;
                String row = "MeetHouse." + field.getName() + "` | " + field.getInt(null) + " |";
                CHECK.holds("a row tells " + row, page.contains(ROW + row));
            }
        }
        CHECK.due("rows of constants", page.split("\n\\| `MeetHouse\\.", -1).length - 1, found);
        CHECK.due("a refusal as a long", Long.MIN_VALUE - MeetHouse.NULL, Houses.NULL_LONG);
    }

    private static List<String> commands(String script) {
        List<String> commands = new ArrayList<>();
        Matcher command = COMMAND.matcher(script.replaceAll("(?m)^ *#.*$", ""));
        while (command.find()) {
            commands.add(command.group().strip());
        }
        return commands;
    }
}
