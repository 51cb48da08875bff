import java.io.IOException;
import java.lang.reflect.Constructor;
import java.lang.reflect.Field;
import java.lang.reflect.Method;
import java.lang.reflect.Modifier;
import java.nio.file.Files;
import java.nio.file.Path;
import java.util.Arrays;
import java.util.Map;
import java.util.TreeMap;
import java.util.TreeSet;
import java.util.regex.Matcher;
import java.util.regex.Pattern;

/** The public face is the document's alone, and the source keeps to LANGUAGE.md where that can be read off. */
public final class FaceTest {
    private static final String[] METHODS = {
        "int feed(int,long)", "int sample()", "int forget()", "int train(int,int,int,int)", "int give(int,int)",
        "int trim(int)", "int drop(int)", "int told(int,int)",
        "byte content(int,int) throws NullPointerException,ArrayIndexOutOfBoundsException", "int pack(int)",
        "int out(int) throws ArrayIndexOutOfBoundsException", "int open()",
        "int text(int) throws ArrayIndexOutOfBoundsException", "int size(int,int)", "int best(int)",
        "int share(int) throws ArithmeticException", "int about(int)",
    };
    private static final String[] FORBIDDEN = {
        "->", "::", "\\bcatch\\b", "\\btry\\b", "\\bfinally\\b", "\\bsynchronized\\b", "\\bassert\\b", "\\bObject\\b",
        "\\bnew\\s+\\w+(<.*>)?\\(.*\\)\\s*\\{", "\\bprotected\\b", "\\bSystem\\.(?!arraycopy)",
        "\\bArrays\\.(?!copyOf\\b|copyOfRange\\b|fill\\b)", "Exact\\(", "\\bstatic\\s*\\{", "\\bpackage\\b",
        "\\bthrow\\b(?! new (NullPointer|ArrayIndexOutOfBounds|Arithmetic)Exception\\(\"\"\\);)",
    };
    private static final int CLASS_LIMIT = 12;
    private static final int FIELD_LIMIT = 20;
    private static final int PARAMETER_LIMIT = 7;

    public static void main(String[] args) throws IOException {
        Check check = new Check();
        members(check);
        constants(check);
        nestedClasses(check);
        source(check, Files.readString(Path.of("src/main/java/TrainedSegments.java")));
        check.end("FaceTest");
    }

    private static void members(Check check) {
        Class<?> face = TrainedSegments.class;
        check.due("public final", face.getModifiers(), Modifier.PUBLIC | Modifier.FINAL);
        TreeSet<String> open = new TreeSet<>();
        TreeSet<String> hidden = new TreeSet<>();
        for (Method m : face.getDeclaredMethods()) {
            if (Modifier.isPrivate(m.getModifiers())) {
                hidden.add(m.getName());
            } else {
                check.due(m.getName() + " is public and nothing more", m.getModifiers(), Modifier.PUBLIC);
                open.add(signature(m));
            }
        }
        check.due("methods", open.toString(), new TreeSet<>(Arrays.asList(METHODS)).toString());
        for (String signature : METHODS) {
            String name = signature.replaceAll("^\\w+ |\\(.*", "");
            check.due("a private " + name, String.valueOf(hidden.contains(name)), "false");
        }
        Constructor<?>[] makers = face.getDeclaredConstructors();
        check.due("constructors", makers.length, 1);
        check.due("a public one", makers[0].getModifiers(), Modifier.PUBLIC);
        check.due("without parameters", makers[0].getParameterCount(), 0);
    }

    private static String signature(Method m) {
        StringBuilder told = new StringBuilder(m.getReturnType() + " " + m.getName() + "(");
        told.append(names(m.getParameterTypes())).append(")");
        if (m.getExceptionTypes().length > 0) {
            told.append(" throws ").append(names(m.getExceptionTypes()));
        }
        return told.toString();
    }

    private static String names(Class<?>[] types) {
        return String.join(",", Arrays.stream(types).map(Class::getSimpleName).toList());
    }

    private static void constants(Check check) {
        Map<String, Integer> open = new TreeMap<>();
        for (Field f : TrainedSegments.class.getDeclaredFields()) {
            int m = f.getModifiers();
            if (!Modifier.isPrivate(m)) {
                check.due(f.getName(), m, Modifier.PUBLIC | Modifier.STATIC | Modifier.FINAL);
                open.put(f.getName(), valueOf(f));
            }
        }
        check.due("constants", open.toString(), "{FULL=-103, NONE=-1, OUTSIDE=-102, STATE=-104, UNKNOWN=-101}");
    }

    private static int valueOf(Field f) {
        try {
            return f.getInt(null);
        } catch (IllegalAccessException e) {
            throw new IllegalStateException(e);
        }
    }

    private static void nestedClasses(Check check) {
        Class<?>[] nested = TrainedSegments.class.getDeclaredClasses();
        atMost(check, "classes", 1 + nested.length, CLASS_LIMIT);
        sizes(check, TrainedSegments.class);
        for (Class<?> c : nested) {
            check.due(c + " is private, static, final", c.getModifiers(),
                    Modifier.PRIVATE | Modifier.STATIC | Modifier.FINAL);
            check.due(c + " has no class inside", c.getDeclaredClasses().length, 0);
            sizes(check, c);
        }
    }

    private static void sizes(Check check, Class<?> c) {
        int fields = 0;
        for (Field f : c.getDeclaredFields()) {
            boolean isStatic = Modifier.isStatic(f.getModifiers());
            fields += isStatic ? 0 : 1;
            check.due(f + ", if static, is an int and final",
                    !isStatic || f.getType() == int.class && Modifier.isFinal(f.getModifiers()) ? "" : "no", "");
        }
        atMost(check, "fields of " + c, fields, FIELD_LIMIT);
        for (Method m : c.getDeclaredMethods()) {
            atMost(check, "parameters of " + m, m.getParameterCount(), PARAMETER_LIMIT);
        }
    }

    private static void atMost(Check check, String what, int got, int limit) {
        check.due(what + ", above " + limit, Math.max(got, limit), limit);
    }

    private static void source(Check check, String source) {
        String code = source.replaceAll("(?s)/\\*.*?\\*/", "").replaceAll("//.*", "").replaceAll("\"[^\"]*\"", "\"\"");
        for (String pattern : FORBIDDEN) {
            Matcher found = Pattern.compile(pattern).matcher(code);
            check.due("forbidden", found.find() ? found.group() : "", "");
        }
        Matcher imports = Pattern.compile("(?m)^import .*$").matcher(code);
        while (imports.find()) {
            check.due("import", imports.group(), "import java.util.Arrays;");
        }
    }
}
