import java.io.IOException;
import java.lang.reflect.Constructor;
import java.lang.reflect.Field;
import java.lang.reflect.Method;
import java.lang.reflect.Modifier;
import java.nio.file.Files;
import java.nio.file.Path;
import java.util.ArrayList;
import java.util.Arrays;
import java.util.List;
import java.util.Set;
import java.util.TreeSet;
import java.util.regex.Pattern;

/** The public face is the document's and no more, and the source keeps to rules of LANGUAGE.md that can be seen. */
public final class FaceTest {
    private static final String[] FACE = {
        "int feed(int,int,int,int,int)", "int end(int)", "int text()", "int statements(int)",
        "int force(int,int)", "int inForce(int)", "int would(int,int,int)", "int shire(int,int,int)",
        "int debt(int,int,int,int)", "int term()", "int come(int,int)", "int free(int)", "int heir(int,int)",
        "int about(int,int)", "long owe(int,int)", "int line(int,int)", "int as(int,int)", "int stick(int,int)",
        "int fits(int,int)", "int lay(int)", "int take(int)", "int cloth(int)", "long sum(int)", "int count(int)"};
    private static final String[] NOT_IN_SOURCE = {
        "\\bthrow\\b", "\\btry\\b", "\\bcatch\\b", "\\bsynchronized\\b", "\\bassert\\b", "->", "::", "\\bnew \\w+\\(.*\\) \\{",
        "\\bstatic \\{", "Exact\\(", "\\bpackage\\b", "\\bdouble\\b", "\\bfloat\\b"};

    private static final Set<String> FACE_NAMES = new TreeSet<>();

    public static void main(String[] args) throws IOException {
        for (String one : FACE) {
            FACE_NAMES.add(one.substring(one.indexOf(' ') + 1, one.indexOf('(')));
        }
        constants();
        methods();
        fields();
        classesInside();
        source(Files.readString(Path.of("src/main/java/CrownTable.java")));
        Check.finish();
    }

    private static void constants() {
        Check.due("BAD", CrownTable.BAD, -1);
        Check.due("NOT", CrownTable.NOT, -2);
        Check.due("FULL", CrownTable.FULL, -3);
    }

    private static String signature(Method method) {
        List<String> types = new ArrayList<>();
        for (Class<?> type : method.getParameterTypes()) {
            types.add(type.getName());
        }
        return method.getReturnType().getName() + " " + method.getName() + "(" + String.join(",", types) + ")";
    }

    private static void methods() {
        Set<String> due = new TreeSet<>(Arrays.asList(FACE));
        for (Method method : CrownTable.class.getDeclaredMethods()) {
            if (Modifier.isPrivate(method.getModifiers())) {
                Check.due("private " + method + " has a name of its own", !FACE_NAMES.contains(method.getName()));
            } else {
                Check.due(method + " is in the face", due.remove(signature(method)));
                Check.due(method + " is public", Modifier.isPublic(method.getModifiers()));
                Check.due(method + " is not static", !Modifier.isStatic(method.getModifiers()));
            }
        }
        Check.due("missing " + due, due.isEmpty());
        Constructor<?>[] constructors = CrownTable.class.getDeclaredConstructors();
        Check.due("constructors", constructors.length, 1);
        Check.due("constructor is public", Modifier.isPublic(constructors[0].getModifiers()));
        Check.due("constructor's parameters", constructors[0].getParameterCount(), 0);
        Check.due("class is final", Modifier.isFinal(CrownTable.class.getModifiers()));
    }

    private static void fields() {
        Set<String> face = Set.of("BAD", "NOT", "FULL");
        for (Field field : CrownTable.class.getDeclaredFields()) {
            boolean open = !Modifier.isPrivate(field.getModifiers());
            Check.due(field + " is private or of the face", open == face.contains(field.getName()));
            if (Modifier.isStatic(field.getModifiers())) {
                Check.due(field + " is final", Modifier.isFinal(field.getModifiers()));
            }
        }
    }

    private static void classesInside() {
        Class<?>[] inside = CrownTable.class.getDeclaredClasses();
        Check.due("classes are at most twelve", inside.length < 12);
        for (Class<?> one : inside) {
            Check.due(one + " is static", Modifier.isStatic(one.getModifiers()));
            Check.due(one + " is not open", !Modifier.isPublic(one.getModifiers()) && !Modifier.isProtected(one.getModifiers()));
            for (Field field : one.getDeclaredFields()) {
                boolean isStatic = Modifier.isStatic(field.getModifiers());
                Check.due(field + " is final if static", !isStatic || Modifier.isFinal(field.getModifiers()));
            }
            for (Method method : one.getDeclaredMethods()) {
                Check.due(method + " has a name of its own", !FACE_NAMES.contains(method.getName()));
            }
            sizes(one);
        }
        sizes(CrownTable.class);
    }

    private static void sizes(Class<?> one) {
        int fields = 0;
        for (Field field : one.getDeclaredFields()) {
            fields += Modifier.isStatic(field.getModifiers()) ? 0 : 1;
        }
        Check.due(one + " has at most twenty fields", fields <= 20);
        for (Method method : one.getDeclaredMethods()) {
            Check.due(method + " takes at most seven parameters", method.getParameterCount() <= 7);
        }
    }

    private static void source(String source) {
        String code = Pattern.compile("/\\*.*?\\*/", Pattern.DOTALL).matcher(source).replaceAll("").replaceAll("//.*", "");
        for (String never : NOT_IN_SOURCE) {
            Check.due("no " + never, !Pattern.compile(never).matcher(code).find());
        }
        for (String line : code.split("\n")) {
            if (line.startsWith("import")) {
                Check.due(line, line.equals("import java.util.Arrays;"));
            }
        }
    }
}
