import java.io.IOException;
import java.lang.reflect.InvocationTargetException;
import java.lang.reflect.Method;
import java.nio.charset.StandardCharsets;
import java.nio.file.Files;
import java.nio.file.Path;
import java.util.regex.Matcher;
import java.util.regex.Pattern;

/** README.md's calls answer as README.md says: a block of text is laid on a new object's tape, the calls follow. */
final class ReadmeTest {
    private static final Pattern CALL = Pattern.compile("x\\.(\\w+)\\((.*?)\\); *// (-?\\d+|true|false)(:.*)?");
    private WageHats x;
    private int calls;

    private ReadmeTest() {
    }

    static void runAll(String readme) throws IOException, ReflectiveOperationException {
        new ReadmeTest().run(Files.readString(Path.of(readme), StandardCharsets.UTF_8));
    }

    private void run(String readme) throws ReflectiveOperationException {
        String[] blocks = readme.split("```");
        for (int i = 1; i < blocks.length; i += 2) {
            if (blocks[i].startsWith("text\n")) {
                x = new WageHats();
                Texts.lay(x, Texts.bytesOf(blocks[i].substring(5)));
            } else if (blocks[i].startsWith("java\n")) {
                callAll(blocks[i].substring(5).split("\n"));
            }
        }
        Check.due("calls in README.md", calls >= 40, true);
    }

    private void callAll(String[] lines) throws ReflectiveOperationException {
        for (String line : lines) {
            Matcher found = CALL.matcher(line);
            if (line.equals("WageHats x = new WageHats();")) {
                x = new WageHats();
            } else if (found.matches()) {
                String answer = String.valueOf(call(found.group(1), found.group(2)));
                Check.due("README.md, " + line + " answered " + answer, answer.equals(found.group(3)), true);
                calls++;
            } else {
                Check.due("README.md, no call with its answer: " + line, true, false);
            }
        }
    }

    private Object call(String name, String told) throws IllegalAccessException, InvocationTargetException {
        String[] parts = told.isEmpty() ? new String[0] : told.split(", *");
        Object[] arguments = new Object[parts.length];
        for (int i = 0; i < parts.length; i++) {
            arguments[i] = Integer.decode(parts[i]);
        }
        for (Method method : WageHats.class.getDeclaredMethods()) {
            if (method.getName().equals(name)) {
                return method.invoke(x, arguments);
            }
        }
        return "no such call";
    }
}
