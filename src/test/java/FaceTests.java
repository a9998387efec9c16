import java.io.IOException;
import java.lang.reflect.Constructor;
import java.lang.reflect.Field;
import java.lang.reflect.Method;
import java.lang.reflect.Modifier;
import java.nio.file.Files;
import java.nio.file.Path;
import java.util.Arrays;
import java.util.Set;
import java.util.TreeSet;
import java.util.regex.Matcher;
import java.util.regex.Pattern;

/** The document's face and no other, and a source without the words that the language's rules forbid. */
public final class FaceTests {
    private static final Checks CHECKS = new Checks();
    private static final Path SOURCE = Path.of("src/main/java/BoundedMachines.java");

    private static final String[] FACE = {
        "int state(int, boolean) IllegalArgumentException UnsupportedOperationException",
        "int gate(int, int, int) IllegalArgumentException UnsupportedOperationException",
        "int next(int, int) IllegalArgumentException",
        "int compare(int, int) IllegalArgumentException UnsupportedOperationException",
        "int search(int) IllegalArgumentException",
        "int length()",
        "int word(int) IndexOutOfBoundsException",
        "int clear()",
        "int seen()",
        "int level(int) IndexOutOfBoundsException",
        "void begin()",
        "boolean cycle(int)",
        "boolean truth(int) IndexOutOfBoundsException",
        "int replay()",
        "int count(int)",
    };

    private static final String[] FORBIDDEN = {
        "try", "catch", "finally", "synchronized", "assert", "package", "protected", "instanceof", "Object", "System",
        "Thread", "Random", "double", "float", "\\w+Exact", "->", "::",
    };

    private FaceTests() {
    }

    public static void main(String[] args) throws IOException {
        methods();
        fieldsAndConstructors();
        classesInside();
        source(Files.readString(SOURCE));
        CHECKS.end("FaceTests");
    }

    private static String told(Method method) {
        StringBuilder text = new StringBuilder();
        text.append(method.getReturnType().getSimpleName()).append(' ').append(method.getName()).append('(');
        String before = "";
        for (Class<?> type : method.getParameterTypes()) {
            text.append(before).append(type.getSimpleName());
            before = ", ";
        }
        text.append(')');
        for (Class<?> type : method.getExceptionTypes()) {
            text.append(' ').append(type.getSimpleName());
        }
        return text.toString();
    }

    private static void methods() {
        Set<String> open = new TreeSet<>();
        Set<String> openNames = new TreeSet<>();
        Set<String> hiddenNames = new TreeSet<>();
        for (Method method : BoundedMachines.class.getDeclaredMethods()) {
            if (Modifier.isPrivate(method.getModifiers())) {
                hiddenNames.add(method.getName());
            } else {
                CHECKS.same(method.getName() + " is public", Modifier.PUBLIC, method.getModifiers());
                open.add(told(method));
                openNames.add(method.getName());
            }
        }
        CHECKS.same("the methods", new TreeSet<>(Arrays.asList(FACE)), open);
        for (Class<?> inside : BoundedMachines.class.getDeclaredClasses()) {
            for (Method method : inside.getDeclaredMethods()) {
                hiddenNames.add(method.getName());
            }
        }
        hiddenNames.retainAll(openNames);
        CHECKS.same("hidden methods with a public one's name", Set.of(), hiddenNames);
    }

    private static void fieldsAndConstructors() {
        CHECKS.same("public final", Modifier.PUBLIC | Modifier.FINAL, BoundedMachines.class.getModifiers());
        for (Field field : BoundedMachines.class.getDeclaredFields()) {
            if (!Modifier.isPrivate(field.getModifiers())) {
                CHECKS.same("the one open field", "NONE", field.getName());
                CHECKS.same("its modifiers", Modifier.PUBLIC | Modifier.STATIC | Modifier.FINAL, field.getModifiers());
                CHECKS.same("its type", int.class, field.getType());
            }
        }
        Constructor<?>[] constructors = BoundedMachines.class.getDeclaredConstructors();
        CHECKS.same("constructors", 1, constructors.length);
        CHECKS.same("it is public", Modifier.PUBLIC, constructors[0].getModifiers());
        CHECKS.same("its parameters", "[int]", Arrays.toString(constructors[0].getParameterTypes()));
    }

    private static void classesInside() {
        Class<?>[] inside = BoundedMachines.class.getDeclaredClasses();
        CHECKS.same("at most twelve classes", true, inside.length <= 12);
        for (Class<?> each : inside) {
            CHECKS.same(each + " is static", true, Modifier.isStatic(each.getModifiers()));
            CHECKS.same(each + " is hidden", true, Modifier.isPrivate(each.getModifiers()));
            int fields = 0;
            for (Field field : each.getDeclaredFields()) {
                if (Modifier.isStatic(field.getModifiers())) {
                    CHECKS.same(field + " is final", true, Modifier.isFinal(field.getModifiers()));
                } else {
                    fields++;
                }
            }
            CHECKS.same(each + " has at most twenty fields", true, fields <= 20);
        }
    }

    private static void source(String text) {
        String code = text.replaceAll("(?s)/\\*.*?\\*/", "").replaceAll("//[^\n]*", "").replaceAll("\"[^\"\n]*\"", "\"\"");
        for (String word : FORBIDDEN) {
            String edge = Character.isLetter(word.charAt(0)) || word.startsWith("\\") ? "\\b" : "";
            Matcher matcher = Pattern.compile(edge + word + edge).matcher(code);
            CHECKS.same("'" + word + "' in the source", false, matcher.find());
        }
        Matcher imports = Pattern.compile("import [^;]*").matcher(code);
        while (imports.find()) {
            CHECKS.same("the one import", "import java.util.Arrays", imports.group());
        }
        for (int k = 0; k < text.length(); k++) {
            if (text.charAt(k) > 255) {
                CHECKS.same("character " + k, "one of 0 to 255", text.charAt(k));
            }
        }
    }
}
