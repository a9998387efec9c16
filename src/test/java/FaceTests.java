import java.io.IOException;
import java.lang.reflect.Constructor;
import java.lang.reflect.Field;
import java.lang.reflect.InvocationTargetException;
import java.lang.reflect.Method;
import java.lang.reflect.Modifier;
import java.nio.file.Files;
import java.nio.file.Path;
import java.util.ArrayList;
import java.util.Arrays;
import java.util.Comparator;
import java.util.List;
import java.util.Random;
import java.util.Set;
import java.util.TreeSet;
import java.util.regex.Matcher;
import java.util.regex.Pattern;

/** The document's face and no other, and a source without the words that the language's rules forbid. */
public final class FaceTests {
    private static final Checks CHECKS = new Checks();
    private static final Path SOURCE = Path.of("src/main/java/BoundedMachines.java");
    private static final Path DOCUMENT = Path.of("../shared/DOC.md");
    private static final int[] DRAWN = {-1, 0, 0, 1, 1, 2, 3, 4, 5, 6, 7, 8, 13, 14, 15, 99, 100, 101, 20000, 20001,
        Integer.MIN_VALUE, Integer.MAX_VALUE};

    private static final String[] FACE = {
        "int state(int, boolean) IllegalArgumentException UnsupportedOperationException",
        "int gate(int, int, int) IllegalArgumentException UnsupportedOperationException",
        "int next(int, int) IllegalArgumentException",
        "int compare(int, int) IllegalArgumentException UnsupportedOperationException",
        "int search(int) IllegalArgumentException",
        "int length()",
        "int word(int) IndexOutOfBoundsException",
        "int clear()",
        "int seen()",
        "int level(int) IndexOutOfBoundsException",
        "void begin()",
        "boolean cycle(int)",
        "boolean truth(int) IndexOutOfBoundsException",
        "int replay()",
        "int count(int)",
    };

    private static final String[] FORBIDDEN = {
        "try", "catch", "finally", "synchronized", "assert", "package", "protected", "instanceof", "Object", "System",
        "Thread", "Random", "double", "float", "\\w+Exact", "->", "::",
    };

    private FaceTests() {
    }

    public static void main(String[] args) {
        CHECKS.runTests(FaceTests.class, "face", "language");
        CHECKS.end("FaceTests");
    }

    private static String told(Method method) {
        StringBuilder text = new StringBuilder();
        text.append(method.getReturnType().getSimpleName()).append(' ').append(method.getName()).append('(');
        String before = "";
        for (Class<?> type : method.getParameterTypes()) {
            text.append(before).append(type.getSimpleName());
            before = ", ";
        }
        text.append(')');
        for (Class<?> type : method.getExceptionTypes()) {
            text.append(' ').append(type.getSimpleName());
        }
        return text.toString();
    }

    /** "public int state(int side, boolean first) throws .." and the others: these methods and no other */
    static void faceMethods() {
        Set<String> open = new TreeSet<>();
        for (Method method : BoundedMachines.class.getDeclaredMethods()) {
            if (!Modifier.isPrivate(method.getModifiers())) {
                CHECKS.same(method.getName() + " is public", Modifier.PUBLIC, method.getModifiers());
                open.add(told(method));
            }
        }
        CHECKS.same("the methods", new TreeSet<>(Arrays.asList(FACE)), open);
    }

    /** The document's lines stand in the source as they are, the names of what is given included. */
    static void faceAsTheDocumentWritesIt() throws IOException {
        String source = Files.readString(SOURCE);
        Pattern face = Pattern.compile("(?s)## The public face.*?```java\n(.*?)```");
        Matcher block = face.matcher(Files.readString(DOCUMENT));
        CHECKS.same("the document has a face", true, block.find());
        int members = 0;
        for (String line : block.group(1).split("\n")) {
            if (line.endsWith(";")) {
                members++;
                String written = line.contains("=") ? line : line.replace(";", " {");
                CHECKS.same(line.strip(), true, source.contains("\n" + written + "\n"));
            }
        }
        CHECKS.same("members", 2 + FACE.length, members);
    }

    /** "public final class BoundedMachines" */
    static void faceClass() {
        CHECKS.same("its modifiers", Modifier.PUBLIC | Modifier.FINAL, BoundedMachines.class.getModifiers());
        CHECKS.same("its package", "", BoundedMachines.class.getPackageName());
        CHECKS.same("the class above it", Object.class, BoundedMachines.class.getSuperclass());
        CHECKS.same("interfaces", 0, BoundedMachines.class.getInterfaces().length);
    }

    /** "public static final int NONE = -1;" and no other field */
    static void faceConstant() throws IllegalAccessException {
        List<String> open = new ArrayList<>();
        for (Field field : BoundedMachines.class.getDeclaredFields()) {
            if (!Modifier.isPrivate(field.getModifiers())) {
                String modifiers = Modifier.toString(field.getModifiers());
                open.add(modifiers + " " + field.getType() + " " + field.getName() + " = " + field.get(null));
            }
        }
        CHECKS.same("the open fields", List.of("public static final int NONE = -1"), open);
    }

    /** "public BoundedMachines(int bits);" and no other constructor */
    static void faceConstructor() {
        Constructor<?>[] constructors = BoundedMachines.class.getDeclaredConstructors();
        CHECKS.same("constructors", 1, constructors.length);
        CHECKS.same("it is public", Modifier.PUBLIC, constructors[0].getModifiers());
        CHECKS.same("its parameters", "[int]", Arrays.toString(constructors[0].getParameterTypes()));
        CHECKS.same("its exceptions", 0, constructors[0].getExceptionTypes().length);
    }

    /** Rule 1: "No private method bears the name of a public one." */
    static void languageHiddenNames() {
        Set<String> openNames = new TreeSet<>();
        Set<String> hiddenNames = new TreeSet<>();
        for (Method method : BoundedMachines.class.getDeclaredMethods()) {
            boolean hidden = Modifier.isPrivate(method.getModifiers());
            (hidden ? hiddenNames : openNames).add(method.getName());
        }
        for (Class<?> inside : BoundedMachines.class.getDeclaredClasses()) {
            for (Method method : inside.getDeclaredMethods()) {
                hiddenNames.add(method.getName());
            }
        }
        hiddenNames.retainAll(openNames);
        CHECKS.same("hidden methods with a public one's name", Set.of(), hiddenNames);
    }

    /** Rules 1, 5 and 11: classes inside */
    static void languageClassesInside() {
        Class<?>[] inside = BoundedMachines.class.getDeclaredClasses();
        CHECKS.same("at most twelve classes", true, inside.length <= 12);
        for (Class<?> each : inside) {
            CHECKS.same(each + " is static", true, Modifier.isStatic(each.getModifiers()));
            CHECKS.same(each + " is hidden", true, Modifier.isPrivate(each.getModifiers()));
            int fields = 0;
            for (Field field : each.getDeclaredFields()) {
                if (Modifier.isStatic(field.getModifiers())) {
                    CHECKS.same(field + " is final", true, Modifier.isFinal(field.getModifiers()));
                } else {
                    fields++;
                }
            }
            CHECKS.same(each + " has at most twenty fields", true, fields <= 20);
        }
    }

    /** Rules 6 and 7: a call throws what its line of the face tells, by that very class, and nothing else. */
    static void languageNothingElseIsThrown() throws IllegalAccessException {
        Random random = new Random(7);
        Method[] methods = BoundedMachines.class.getMethods();
        Arrays.sort(methods, Comparator.comparing(Method::toString));
        int thrown = 0;
        for (int objects = 0; objects < 200; objects++) {
            BoundedMachines x = new BoundedMachines(random.nextInt());
            for (int calls = 0; calls < 512; calls++) {
                Method method = methods[random.nextInt(methods.length)];
                if (method.getDeclaringClass() == BoundedMachines.class && !throwsWhatItTells(method, x, random)) {
                    thrown++;
                }
            }
        }
        CHECKS.same("calls that threw something else", 0, thrown);
    }

    private static boolean throwsWhatItTells(Method method, BoundedMachines x, Random random)
            throws IllegalAccessException {
        Object[] given = new Object[method.getParameterCount()];
        for (int k = 0; k < given.length; k++) {
            boolean yesOrNo = method.getParameterTypes()[k] == boolean.class;
            given[k] = yesOrNo ? (Object) random.nextBoolean() : (Object) DRAWN[random.nextInt(DRAWN.length)];
        }
        try {
            method.invoke(x, given);
            return true;
        } catch (InvocationTargetException e) {
            boolean told = Arrays.asList(method.getExceptionTypes()).contains(e.getCause().getClass());
            if (!told) {
                System.out.println(method.getName() + Arrays.toString(given) + " threw " + e.getCause());
            }
            return told;
        }
    }

    /** Words and characters that the rules forbid */
    static void languageSource() throws IOException {
        String text = Files.readString(SOURCE);
        String code = text.replaceAll("(?s)/\\*.*?\\*/", "").replaceAll("//[^\n]*", "").replaceAll("\"[^\"\n]*\"", "\"\"");
        for (String word : FORBIDDEN) {
            String edge = Character.isLetter(word.charAt(0)) || word.startsWith("\\") ? "\\b" : "";
            Matcher matcher = Pattern.compile(edge + word + edge).matcher(code);
            CHECKS.same("'" + word + "' in the source", false, matcher.find());
        }
        Matcher imports = Pattern.compile("import [^;]*").matcher(code);
        while (imports.find()) {
            CHECKS.same("the one import", "import java.util.Arrays", imports.group());
        }
        for (int k = 0; k < text.length(); k++) {
            if (text.charAt(k) > 255) {
                CHECKS.same("character " + k, "one of 0 to 255", text.charAt(k));
            }
        }
    }
}
