import java.io.IOException;
import java.lang.reflect.Method;
import java.lang.reflect.Modifier;
import java.nio.file.Files;
import java.nio.file.Path;
import java.util.Arrays;
import java.util.regex.Matcher;
import java.util.regex.Pattern;
import java.util.stream.Stream;

/** What README.md tells of the calls: its examples answer as it says, and it has every call, law and refusal. */
public final class ReadmeTest {
    private static final Pattern EXAMPLE = Pattern.compile("x\\.(\\w+)\\(([^)]*)\\); +// (-?\\d+)\\b");
    private static final Pattern LAW = Pattern.compile("\\| `(\\w+)` \\| (\\d+) \\.\\. (\\d+) \\| (\\d+) \\|");
    private static final Check check = new Check();

    public static void main(String[] args) throws IOException, ReflectiveOperationException {
        String readme = Files.readString(Path.of("README.md"));
        examplesAnswerSo(readme);
        everyCallIsTold(readme);
        lawsAreTold(readme);
        numbersBelowNoughtAreTold(readme);
        check.end();
    }

    private static void examplesAnswerSo(String readme) throws ReflectiveOperationException {
        LooksByMany x = new LooksByMany();
        int examples = 0;
        for (String line : readme.split("\n")) {
            Matcher call = EXAMPLE.matcher(line);
            if (call.lookingAt()) {
                check.due(line, answerOf(x, call.group(1), call.group(2)), Integer.parseInt(call.group(3)));
                examples++;
            } else {
                check.isTrue("a call without its answer: " + line, !line.startsWith("x."));
            }
        }
        check.isTrue("there are examples, and not too many for one object", examples > 30 && examples <= 512);
    }

    private static int answerOf(LooksByMany x, String name, String given) throws ReflectiveOperationException {
        String[] words = given.isEmpty() ? new String[0] : given.split(", ");
        Method method = methodOf(name);
        Object[] arguments = new Object[words.length];
        for (int i = 0; i < words.length; i++) {
            Class<?> type = method.getParameterTypes()[i];
            arguments[i] = type == boolean.class ? (Object) words[i].equals("true")
                    : type == long.class ? (Object) Long.decode(words[i].replace("L", "")) : Integer.valueOf(words[i]);
        }
        return (int) method.invoke(x, arguments);
    }

    private static Method methodOf(String name) {
        return publicOnes().filter(method -> method.getName().equals(name)).findFirst()
                .orElseThrow(() -> new AssertionError("there is no call " + name));
    }

    private static Stream<Method> publicOnes() {
        return Arrays.stream(LooksByMany.class.getDeclaredMethods())
                .filter(method -> Modifier.isPublic(method.getModifiers()));
    }

    private static void everyCallIsTold(String readme) {
        publicOnes().forEach(method -> {
            Matcher row = Pattern.compile("\n\\| `" + method.getName() + "\\(([^)]*)\\)` \\|").matcher(readme);
            boolean isThere = row.find();
            check.isTrue("README.md has a row for " + method.getName(), isThere);
            if (isThere) {
                String given = row.group(1);
                check.due("numbers given to " + method.getName(),
                        given.isEmpty() ? 0 : given.split(", ").length, method.getParameterCount());
            }
        });
    }

    private static void lawsAreTold(String readme) {
        Matcher row = LAW.matcher(readme);
        int laws = 0;
        while (row.find()) {
            check.due(row.group(1) + " at first", new LooksByMany().law(laws), Integer.parseInt(row.group(4)));
            boundIsTold(row.group(1), laws, Integer.parseInt(row.group(2)), -1);
            boundIsTold(row.group(1), laws, Integer.parseInt(row.group(3)), 1);
            laws++;
        }
        check.due("laws told", laws, 8);
    }

    private static void boundIsTold(String word, int law, int bound, int beyond) {
        LooksByMany x = new LooksByMany();
        check.due("a text of " + word + " " + bound, Make.laws(x, word + " " + bound + ";"), 1);
        check.due("the law " + word, x.law(law), bound);
        int farther = bound + beyond;
        check.isTrue("a text of " + word + " " + farther + " has a fault",
                Make.laws(x, word + " " + farther + ";") < -10);
    }

    private static void numbersBelowNoughtAreTold(String readme) {
        String[] rows = {LooksByMany.NONE + " | `NONE`", "-11 | ", "-12 | ", "-13 | ", "-41 | ",
            LooksByMany.UNKNOWN + " | `UNKNOWN`", LooksByMany.OUTSIDE + " | `OUTSIDE`", LooksByMany.NOT + " | `NOT`",
            LooksByMany.FULL + " | `FULL`"};
        for (String row : rows) {
            check.isTrue("README.md has a row '" + row + "'", readme.contains("\n| " + row));
        }
    }
}
