import java.io.IOException;
import java.lang.reflect.Constructor;
import java.lang.reflect.Field;
import java.lang.reflect.Method;
import java.lang.reflect.Modifier;
import java.nio.file.Files;
import java.nio.file.Path;
import java.util.ArrayList;
import java.util.Arrays;
import java.util.List;
import java.util.Set;
import java.util.TreeSet;
import java.util.regex.Matcher;
import java.util.regex.Pattern;

/** The public face of the document, and what can be seen of ../shared/LANGUAGE.md without a compiler. */
public final class LanguageTest {
    private static final String[] FACE = {"int object(int)", "int set(int,int,int)", "int link(int,int)",
        "int row(int,int)", "int item(int,int,int)", "int expression(int,int,int,int)", "int rule(int,int,int,int)",
        "int turn(int,boolean)", "long score(int) IllegalArgumentException IllegalStateException", "int failed(int)",
        "long full(int) IllegalArgumentException IllegalStateException",
        "int mark(int,int,int) NoSuchElementException NullPointerException ClassCastException"
            + " ArrayIndexOutOfBoundsException ArithmeticException IllegalStateException",
        "int reads(int,int,int,int)", "int unlike(int)", "int uneven(int)", "int about(int)"};

    /** The document's own, beside those of rule 6: mark() has to throw them. */
    private static final Set<String> THROWN = Set.of("IllegalStateException", "IllegalArgumentException",
        "NoSuchElementException", "ArithmeticException", "NullPointerException", "ClassCastException",
        "ArrayIndexOutOfBoundsException");

    private static final Set<String> IMPORTS = Set.of("java.util.ArrayList", "java.util.Arrays",
        "java.util.NoSuchElementException");

    private static final String[] RULED_OUT = {"->", "::", "\\btry\\b", "\\bcatch\\b", "\\bfinally\\b",
        "\\bsynchronized\\b", "\\bassert\\b", "\\bpackage\\b", "\\bSystem\\b", "Exact\\(", "\\bRandom\\b",
        "\\bThread\\b", "\\bstatic \\{", "\\bequals\\(", "\\bhashCode\\b", "\\btoString\\b", "\\bObject\\b"};

    public static void main(String[] args) throws IOException {
        face();
        classes();
        source(Files.readString(Path.of("src/main/java/MemberScores.java")));
        Check.end();
    }

    private static void yes(String what, boolean holds) {
        Check.due(what, holds ? 1 : 0, 1);
    }

    private static String told(Method m) {
        StringBuilder text = new StringBuilder(m.getReturnType().getSimpleName() + " " + m.getName() + "(");
        for (int i = 0; i < m.getParameterCount(); i++) {
            text.append(i == 0 ? "" : ",").append(m.getParameterTypes()[i].getSimpleName());
        }
        text.append(")");
        for (Class<?> thrown : m.getExceptionTypes()) {
            text.append(" ").append(thrown.getSimpleName());
        }
        return text.toString();
    }

    private static void face() {
        Set<String> methods = new TreeSet<>();
        for (Method m : MemberScores.class.getDeclaredMethods()) {
            if (!Modifier.isPrivate(m.getModifiers())) {
                methods.add(told(m));
                yes(m + " is public and of the object", m.getModifiers() == Modifier.PUBLIC);
            }
        }
        yes("the methods are the document's: " + methods, methods.equals(new TreeSet<>(Arrays.asList(FACE))));
        Set<String> constants = new TreeSet<>();
        for (Field f : MemberScores.class.getDeclaredFields()) {
            if (!Modifier.isPrivate(f.getModifiers())) {
                constants.add(f.getName());
            }
        }
        yes("the constants are the document's", constants.equals(Set.of("NONE", "UNKNOWN", "OUTSIDE", "ROOM")));
        Constructor<?>[] made = MemberScores.class.getDeclaredConstructors();
        yes("one public constructor", made.length == 1 && made[0].getModifiers() == Modifier.PUBLIC
            && made[0].getParameterCount() == 0);
        yes("public and final", MemberScores.class.getModifiers() == (Modifier.PUBLIC | Modifier.FINAL));
    }

    private static void classes() {
        Set<String> publicNames = new TreeSet<>();
        for (Method m : MemberScores.class.getMethods()) {
            publicNames.add(m.getName());
        }
        List<Class<?>> all = new ArrayList<>(List.of(MemberScores.class.getDeclaredClasses()));
        yes("some twelve classes", all.size() < 12);
        for (Class<?> inner : all) {
            yes(inner + " is private and static", Modifier.isPrivate(inner.getModifiers())
                && Modifier.isStatic(inner.getModifiers()));
        }
        all.add(MemberScores.class);
        for (Class<?> each : all) {
            int fields = 0;
            for (Field f : each.getDeclaredFields()) {
                fields += Modifier.isStatic(f.getModifiers()) ? 0 : 1;
                yes(f + " is final if it is static", !Modifier.isStatic(f.getModifiers())
                    || Modifier.isFinal(f.getModifiers()));
            }
            yes(each + " has some twenty fields", fields <= 20);
            for (Method m : each.getDeclaredMethods()) {
                yes(m + " takes at most seven", m.getParameterCount() <= 7);
                yes(m + " bears a name of its own", Modifier.isPublic(m.getModifiers())
                    || !publicNames.contains(m.getName()));
            }
        }
    }

    private static void source(String text) {
        String code = text.replaceAll("(?s)/\\*.*?\\*/", "").replaceAll("//[^\n]*", "");
        for (String pattern : RULED_OUT) {
            yes("there is no " + pattern, !Pattern.compile(pattern).matcher(code).find());
        }
        Matcher thrown = Pattern.compile("throw new (\\w+)\\(\\);").matcher(code);
        while (thrown.find()) {
            yes(thrown.group(1) + " may be thrown", THROWN.contains(thrown.group(1)));
        }
        yes("every throw is a throw new", !Pattern.compile("\\bthrow\\b(?! new \\w+\\(\\);)").matcher(code).find());
        Matcher imported = Pattern.compile("import ([\\w.*]+);").matcher(code);
        while (imported.find()) {
            yes(imported.group(1) + " is of the library", IMPORTS.contains(imported.group(1)));
        }
    }
}
