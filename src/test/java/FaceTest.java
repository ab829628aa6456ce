import java.io.IOException;
import java.lang.reflect.Constructor;
import java.lang.reflect.Field;
import java.lang.reflect.Method;
import java.lang.reflect.Modifier;
import java.nio.file.Files;
import java.nio.file.Path;
import java.util.ArrayList;
import java.util.Arrays;
import java.util.List;
import java.util.TreeSet;
import java.util.regex.Matcher;
import java.util.regex.Pattern;

/** The face of the class, and the rules of LANGUAGE.md that can be seen from outside or in the text of the file. */
public final class FaceTest {
    private static final Path SOURCE = Path.of("src/main/java/LooksByMany.java");
    private static final List<String> METHODS = List.of("picture int int int boolean", "mirror int", "looker int",
            "feed int long", "read", "fault", "law int", "count int", "told int int", "seed int", "look int int int",
            "says int int", "about int int", "next int int", "evening int int int", "stays int", "reckon",
            "odds int int", "table int int int", "sky int", "far int int", "lean int int", "agreed int int int",
            "green int", "given int", "things int", "weight int int", "question int int", "tree int int", "wrong int");
    private static final String[] BARRED = {"throw", "throws", "try", "catch", "synchronized", "assert", "import",
        "package", "new Object", "System.out", "Exact", "->", "::", "double", "float", "Thread", "@"};
    private static final Check check = new Check();

    public static void main(String[] args) throws IOException {
        methods();
        nothingElseIsSeen();
        fieldsAreFewAndStaticOnesFinal();
        barredWords();
        methodsAreShort();
        anyCallsEnd();
        check.end();
    }

    private static void methods() {
        TreeSet<String> found = new TreeSet<>();
        for (Method method : LooksByMany.class.getDeclaredMethods()) {
            if (!Modifier.isPrivate(method.getModifiers())) {
                StringBuilder face = new StringBuilder(method.getName());
                Arrays.stream(method.getParameterTypes()).forEach(type -> face.append(" ").append(type));
                found.add(face.toString());
                check.isTrue(method + " is public and answers an int",
                        method.getModifiers() == Modifier.PUBLIC && method.getReturnType() == int.class);
            }
        }
        check.isTrue("the methods are those of the document: " + found, found.equals(new TreeSet<>(METHODS)));
    }

    private static void nothingElseIsSeen() {
        check.due("modifiers of the class", LooksByMany.class.getModifiers(), Modifier.PUBLIC | Modifier.FINAL);
        Constructor<?>[] made = LooksByMany.class.getDeclaredConstructors();
        check.isTrue("one public constructor", made.length == 1 && made[0].getModifiers() == Modifier.PUBLIC);
        TreeSet<String> seen = new TreeSet<>();
        for (Field field : LooksByMany.class.getDeclaredFields()) {
            if (!Modifier.isPrivate(field.getModifiers())) {
                seen.add(field.getName());
            }
        }
        check.isTrue("the constants alone are seen: " + seen,
                seen.equals(new TreeSet<>(List.of("NONE", "UNKNOWN", "OUTSIDE", "NOT", "FULL"))));
        for (Class<?> inner : LooksByMany.class.getDeclaredClasses()) {
            check.isTrue(inner + " is static and not public",
                    Modifier.isStatic(inner.getModifiers()) && !Modifier.isPublic(inner.getModifiers()));
        }
        TreeSet<String> names = new TreeSet<>();
        METHODS.forEach(face -> names.add(face.split(" ")[0]));
        for (Class<?> one : classes()) {
            for (Method method : one.getDeclaredMethods()) {
                check.isTrue(method + " bears no public name", one == LooksByMany.class
                        && Modifier.isPublic(method.getModifiers()) || !names.contains(method.getName()));
                check.isTrue(method + " has seven parameters at most", method.getParameterCount() <= 7);
            }
        }
    }

    private static void fieldsAreFewAndStaticOnesFinal() {
        check.isTrue("twelve classes at most", classes().size() <= 12);
        for (Class<?> one : classes()) {
            int fields = 0;
            for (Field field : one.getDeclaredFields()) {
                if (Modifier.isStatic(field.getModifiers())) {
                    check.isTrue(field + " is final", Modifier.isFinal(field.getModifiers()));
                } else {
                    fields++;
                }
            }
            check.isTrue(one + " has twenty fields at most", fields <= 20);
        }
    }

    private static List<Class<?>> classes() {
        List<Class<?>> all = new ArrayList<>(List.of(LooksByMany.class.getDeclaredClasses()));
        all.add(LooksByMany.class);
        return all;
    }

    private static void barredWords() throws IOException {
        String code = Files.readString(SOURCE).replaceAll("(?s)/\\*.*?\\*/", "").replaceAll("//[^\n]*", "");
        for (String word : BARRED) {
            boolean isName = Character.isLetter(word.charAt(0));
            Matcher found = Pattern.compile(isName ? "\\b" + word + "\\b" : Pattern.quote(word)).matcher(code);
            check.isTrue("the file has no '" + word + "'", !found.find());
        }
        check.isTrue("the file has signs of 1 to 126 alone", code.chars().allMatch(sign -> sign > 0 && sign < 127));
    }

    private static void methodsAreShort() throws IOException {
        int start = -1;
        List<String> lines = Files.readAllLines(SOURCE);
        for (int i = 0; i < lines.size(); i++) {
            String line = lines.get(i);
            if (line.matches("( {4}| {8})[a-zA-Z].*\\) \\{")) {
                start = i;
            }
            if (start >= 0 && line.matches("( {4}| {8})\\}")) {
                check.isTrue("sixty lines at most: " + lines.get(start).trim(), i - start < 60);
                start = -1;
            }
        }
    }

    /** Calls with any numbers at all. What they answer beyond 512 is free, but none may ever throw or fail to end. */
    private static void anyCallsEnd() {
        int[] numbers = {0, 1, 2, 3, 7, 8, 9, 23, 24, 31, 32, 33, 99, 100, 199, 200, 255, 256, -1, -2, -32,
            Integer.MIN_VALUE, Integer.MAX_VALUE};
        LooksByMany x = new LooksByMany();
        java.util.Random random = new java.util.Random(1);
        List<Method> face = Arrays.stream(LooksByMany.class.getDeclaredMethods())
                .filter(method -> Modifier.isPublic(method.getModifiers()))
                .sorted(java.util.Comparator.comparing(Method::getName)).toList();
        for (int i = 0; i < 60000; i++) {
            Method method = face.get(random.nextInt(face.size()));
            Object[] given = new Object[method.getParameterCount()];
            for (int k = 0; k < given.length; k++) {
                int number = numbers[random.nextInt(numbers.length)];
                Class<?> type = method.getParameterTypes()[k];
                given[k] = type == boolean.class ? (Object) (number > 9) : type == long.class ? (Object) (long) number : number;
            }
            try {
                method.invoke(x, given);
            } catch (ReflectiveOperationException thrown) {
                check.isTrue(method + " " + Arrays.toString(given) + " threw " + thrown.getCause(), false);
            }
        }
    }
}
