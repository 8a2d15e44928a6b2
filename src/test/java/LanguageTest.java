import java.io.IOException;
import java.lang.reflect.Constructor;
import java.lang.reflect.Field;
import java.lang.reflect.Method;
import java.lang.reflect.Modifier;
import java.nio.file.Files;
import java.nio.file.Path;
import java.util.Arrays;
import java.util.List;
import java.util.Set;
import java.util.TreeSet;
import java.util.regex.Pattern;

/** The document's public face, and the rules of LANGUAGE.md that can be seen without running the class. */
public final class LanguageTest {
    private static final Check CHECK = new Check();
    private static final Set<String> FACE = new TreeSet<>(List.of(
            "node()", "kind(int,int)", "bound(int,int)", "arc(int,int,int,int)", "change(int,int,int)",
            "drop(int)", "clear()", "run()", "value(int)", "on(int,int)", "through(int,int)", "near(int)",
            "far(int)", "tight(int)", "barred(int)", "streams()", "stream(int,int)"));

    public static void main(String[] args) throws IOException {
        face();
        classesInside();
        text(Files.readString(Path.of("src/main/java/GreatestFlow.java")));
        CHECK.end();
    }

    private static void face() {
        Class<?> face = GreatestFlow.class;
        CHECK.holds("the class is public and final",
                Modifier.isPublic(face.getModifiers()) && Modifier.isFinal(face.getModifiers()));
        Constructor<?>[] constructors = face.getDeclaredConstructors();
        CHECK.holds("one public constructor without parameters", constructors.length == 1
                && Modifier.isPublic(constructors[0].getModifiers()) && constructors[0].getParameterCount() == 0);
        Set<String> seen = new TreeSet<>();
        for (Method method : face.getDeclaredMethods()) {
            if (!Modifier.isPrivate(method.getModifiers()) && !method.isSynthetic()) {
                seen.add(signature(method));
                CHECK.holds(method + " is public, answers int, is not static",
                        Modifier.isPublic(method.getModifiers()) && method.getReturnType() == int.class
                                && !Modifier.isStatic(method.getModifiers()));
            }
        }
        CHECK.holds("the methods " + seen, seen.equals(FACE));
        for (Field field : face.getDeclaredFields()) {
            CHECK.holds(field + " is private", Modifier.isPrivate(field.getModifiers()));
            CHECK.holds(field + " is final, if it is static",
                    !Modifier.isStatic(field.getModifiers()) || Modifier.isFinal(field.getModifiers()));
        }
        privateNames(face);
    }

    private static void classesInside() {
        for (Class<?> inside : GreatestFlow.class.getDeclaredClasses()) {
            int modifiers = inside.getModifiers();
            CHECK.holds(inside + " is static and not public", Modifier.isStatic(modifiers)
                    && !Modifier.isPublic(modifiers) && !Modifier.isProtected(modifiers));
            privateNames(inside);
        }
    }

    private static void privateNames(Class<?> owner) {
        for (Method method : owner.getDeclaredMethods()) {
            boolean bearsName = FACE.stream().anyMatch(one -> one.startsWith(method.getName() + "("));
            CHECK.holds(method + " does not bear a public method's name",
                    !bearsName || Modifier.isPublic(method.getModifiers()));
            CHECK.holds(method + " has seven parameters at most", method.getParameterCount() <= 7);
        }
    }

    private static void text(String source) {
        String code = source.replaceAll("(?s)/\\*.*?\\*/", "").replaceAll("//[^\n]*", "");
        String[] forbidden = {
            "\\b(throw|throws|try|catch|finally|synchronized|assert|package|native|volatile|transient)\\b",
            "->", "::", "\"", "\\bvar\\b", "\\bstatic\\s*\\{", "Exact\\s*\\(", "\\bwhile\\b", "\\bdo\\b",
            "\\b(System)\\.(?!arraycopy\\b)", "\\bArrays\\.(?!fill\\b|copyOf\\b|copyOfRange\\b)",
            "\\bMath\\.(?!min\\b|max\\b|abs\\b)", "\\b(Object|Thread|Random|Exception|Error)\\b"
        };
        for (String pattern : forbidden) {
            CHECK.holds("the program has no " + pattern, !Pattern.compile(pattern).matcher(code).find());
        }
        List<String> imports = Arrays.stream(code.split("\n")).filter(line -> line.startsWith("import")).toList();
        CHECK.holds("the imports " + imports, imports.equals(List.of("import java.util.Arrays;")));
    }

    private static String signature(Method method) {
        StringBuilder text = new StringBuilder(method.getName()).append('(');
        for (Class<?> parameter : method.getParameterTypes()) {
            text.append(text.charAt(text.length() - 1) == '(' ? "" : ",").append(parameter.getName());
        }
        return text.append(')').toString();
    }
}
