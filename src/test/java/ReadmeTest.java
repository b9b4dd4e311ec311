import java.io.IOException;
import java.lang.reflect.InvocationTargetException;
import java.lang.reflect.Method;
import java.lang.reflect.Modifier;
import java.nio.file.Files;
import java.nio.file.Path;
import java.util.Set;
import java.util.TreeSet;
import java.util.regex.Matcher;
import java.util.regex.Pattern;
import java.util.stream.Stream;

/** README.md: its examples answer what they say, and it tells of every call, constant and test. */
public final class ReadmeTest {
    private static final String[] CONSTANTS = {"NONE", "UNKNOWN", "OUTSIDE", "ROOM"};
    private static final Pattern BLOCK = Pattern.compile("(?s)```java\n(.*?)```");
    private static final Pattern EXAMPLE =
        Pattern.compile("m\\.(\\w+)\\(([^)]*)\\); +// (throws \\w+|-?\\d+): .+");

    private static final MemberScores EXAMPLES_OF = new MemberScores();
    private static final Set<String> SHOWN = new TreeSet<>();

    public static void main(String[] args) throws IOException, IllegalAccessException {
        String text = Files.readString(Path.of("README.md"));
        examples(text);
        calls(text);
        tests(text);
        Check.end();
    }

    private static void yes(String what, boolean holds) {
        Check.due(what, holds ? 1 : 0, 1);
    }

    private static void examples(String text) throws IllegalAccessException {
        Matcher block = BLOCK.matcher(text);
        int asked = 0;
        while (block.find()) {
            for (String line : block.group(1).split("\n")) {
                if (!line.equals("MemberScores m = new MemberScores();")) {
                    example(line);
                    asked++;
                }
            }
        }
        yes("there are examples, and not too many calls for one object", asked > 0 && asked <= 512);
    }

    private static void example(String line) throws IllegalAccessException {
        Matcher call = EXAMPLE.matcher(line);
        yes("it can be asked: " + line, call.matches());
        if (call.matches()) {
            SHOWN.add(call.group(1));
            Check.same(line, answer(call.group(1), call.group(2).split(", ")), call.group(3));
        }
    }

    private static String answer(String name, String[] given) throws IllegalAccessException {
        for (Method m : MemberScores.class.getMethods()) {
            if (m.getName().equals(name) && m.getParameterCount() == given.length) {
                try {
                    return "" + m.invoke(EXAMPLES_OF, arguments(m, given));
                } catch (InvocationTargetException e) {
                    return "throws " + e.getCause().getClass().getSimpleName();
                }
            }
        }
        return "no such call";
    }

    private static Object[] arguments(Method m, String[] given) {
        Object[] arguments = new Object[given.length];
        for (int i = 0; i < given.length; i++) {
            boolean isOn = m.getParameterTypes()[i] == boolean.class;
            arguments[i] = isOn ? (Object) Boolean.valueOf(given[i]) : (Object) Integer.valueOf(given[i]);
        }
        return arguments;
    }

    private static void calls(String text) {
        for (Method m : MemberScores.class.getDeclaredMethods()) {
            if (Modifier.isPublic(m.getModifiers())) {
                yes("an example asks " + m.getName(), SHOWN.contains(m.getName()));
                yes("a row tells of " + m.getName(), text.contains("\n| `" + m.getName() + "("));
                for (Class<?> thrown : m.getExceptionTypes()) {
                    String row = "\\| [^|\n]*`" + m.getName() + "`[^|\n]* \\| `" + thrown.getSimpleName() + "` \\|";
                    yes("a row tells that " + m.getName() + " throws " + thrown.getSimpleName(),
                        Pattern.compile(row).matcher(text).find());
                }
            }
        }
        for (String constant : CONSTANTS) {
            yes("it tells of " + constant, text.contains("`" + constant + "`"));
        }
    }

    private static void tests(String text) throws IOException {
        yes("it tells how to run the tests", text.contains("\n    .ci/run\n"));
        try (Stream<Path> files = Files.list(Path.of("src/test/java"))) {
            for (Path file : files.toList()) {
                String name = file.getFileName().toString().replace(".java", "");
                yes("it tells of " + name, text.contains("`" + name + "`"));
            }
        }
    }
}
