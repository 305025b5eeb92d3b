import java.io.IOException;
import java.lang.reflect.Constructor;
import java.lang.reflect.Field;
import java.lang.reflect.Method;
import java.lang.reflect.Modifier;
import java.nio.charset.StandardCharsets;
import java.nio.file.Files;
import java.nio.file.Path;
import java.util.Set;
import java.util.TreeSet;

/** The public face, and the rules of LANGUAGE.md that a test can see. */
final class FaceTest {
    private static final String[] FACE = {
        "int feed(int,int,int,int,int)", "boolean end(int)", "int town()", "int fault(int)", "int has(int)",
        "int letter(int,int,int)", "int person(int,int)", "int hat(int,int)", "int put(int,int)",
        "boolean move(int,int)", "int keep(int,int)", "int worth(int,int)", "int all()", "int rest(int)",
        "int proof()", "int part(int,int)", "int look(int)", "int size(int,int,int,int)", "int many(int,int)",
        "int under(int,int,int)", "int ends(int)", "int alike(int)", "int pair(int,int)", "int would(int,int)",
        "int wish(int)", "int choose(int)", "int stable()", "int gap(int)", "int rings(int,int)",
        "boolean seed(int)", "int run(int)", "int drew(int)", "boolean said(int,int)", "int less()", "int image()",
        "int octet(int)", "boolean on()",
    };

    private FaceTest() {
    }

    static void runAll(String program) throws IOException {
        face();
        members();
        fields();
        words(Files.readString(Path.of(program), StandardCharsets.ISO_8859_1));
        Check.due("NONE", WageHats.NONE, -1);
        Check.due("NOTHING", WageHats.NOTHING, -1000000000);
    }

    private static String told(Method method) {
        StringBuilder text = new StringBuilder(method.getReturnType().getName() + " " + method.getName() + "(");
        for (Class<?> type : method.getParameterTypes()) {
            text.append(text.charAt(text.length() - 1) == '(' ? "" : ",").append(type.getName());
        }
        return text.append(")").toString();
    }

    private static void face() {
        Set<String> wanted = new TreeSet<>(Set.of(FACE));
        Set<String> names = new TreeSet<>();
        for (Method method : WageHats.class.getDeclaredMethods()) {
            if (Modifier.isPublic(method.getModifiers())) {
                Check.due("face has " + told(method), wanted.remove(told(method)), true);
                Check.due("static " + told(method), Modifier.isStatic(method.getModifiers()), false);
                names.add(method.getName());
            }
        }
        Check.due("missing of the face: " + wanted, wanted.size(), 0);
        for (Class<?> type : allClasses()) {
            for (Method method : type.getDeclaredMethods()) {
                boolean open = type == WageHats.class && Modifier.isPublic(method.getModifiers());
                Check.due("name of a public one: " + method, !open && names.contains(method.getName()), false);
                Check.due("seven parameters: " + method, method.getParameterCount() <= 7, true);
            }
        }
    }

    private static Class<?>[] allClasses() {
        Class<?>[] inside = WageHats.class.getDeclaredClasses();
        Class<?>[] all = new Class<?>[inside.length + 1];
        System.arraycopy(inside, 0, all, 0, inside.length);
        all[inside.length] = WageHats.class;
        return all;
    }

    private static void members() {
        Check.due("final", Modifier.isFinal(WageHats.class.getModifiers()), true);
        Check.due("public", Modifier.isPublic(WageHats.class.getModifiers()), true);
        Constructor<?>[] made = WageHats.class.getDeclaredConstructors();
        Check.due("constructors", made.length, 1);
        Check.due("twelve classes", allClasses().length <= 12, true);
        for (Method method : WageHats.class.getDeclaredMethods()) {
            int how = method.getModifiers();
            Check.due("public or private: " + method, Modifier.isPublic(how) || Modifier.isPrivate(how), true);
        }
        for (Field field : WageHats.class.getDeclaredFields()) {
            int how = field.getModifiers();
            boolean constant = field.getName().equals("NONE") || field.getName().equals("NOTHING");
            Check.due("private: " + field, constant ? Modifier.isPublic(how) : Modifier.isPrivate(how), true);
        }
        for (Class<?> type : WageHats.class.getDeclaredClasses()) {
            Check.due("static: " + type, Modifier.isStatic(type.getModifiers()), true);
            Check.due("not public: " + type, Modifier.isPublic(type.getModifiers()), false);
        }
    }

    private static void fields() {
        for (Class<?> type : allClasses()) {
            int held = 0;
            for (Field field : type.getDeclaredFields()) {
                boolean fixed = Modifier.isStatic(field.getModifiers());
                Check.due("static and final: " + field, !fixed || Modifier.isFinal(field.getModifiers()), true);
                held += fixed ? 0 : 1;
            }
            Check.due("twenty fields: " + type, held <= 20, true);
        }
    }

    private static void words(String text) {
        for (String word : new String[] {"throw", "try", "catch", "synchronized", "assert", "->", "::", "package ",
            "System.out", "Random", "float", "double", "instanceof", "while (true)", "for (;;)", "Exact(", "\" +", "+ \""}) {
            Check.due("the program has " + word, text.contains(word), false);
        }
        for (int i = 0; i < text.length(); i++) {
            if (text.charAt(i) > 126) {
                Check.due("a sign above 126 at " + i, text.charAt(i), 126);
            }
        }
        int lines = 0;
        for (String line : text.split("\n")) {
            boolean starts = line.matches("( {4}| {8})\\S.*\\) \\{") || line.matches("( {4}| {8})\\}");
            lines = starts ? 0 : lines + 1;
            Check.due("a method of sixty lines: " + line, lines > 60 && line.startsWith("            "), false);
        }
    }
}
