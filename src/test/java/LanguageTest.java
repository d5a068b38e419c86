import java.io.IOException;
import java.lang.reflect.Constructor;
import java.lang.reflect.Field;
import java.lang.reflect.Method;
import java.lang.reflect.Modifier;
import java.nio.file.Files;
import java.nio.file.Path;
import java.util.HashSet;
import java.util.List;
import java.util.Set;
import java.util.regex.Matcher;
import java.util.regex.Pattern;

/** The rules of LANGUAGE.md that can be seen without judgement: the face, the library, words that are not used. */
public final class LanguageTest {
    private static final Path SOURCE = Path.of("src/main/java/ShoeHouse.java");
    private static final String[] BANNED = {
        "->", "::", "Exact\\(", "\\bcatch\\b", "\\bfinally\\b", "\\bsynchronized\\b", "\\bassert\\b", "\\bnew \\w+\\([^)]*\\) \\{",
        "\\bfloatTo", "\\bdoubleTo", "\\bSystem\\.(?!arraycopy)", "\\bString\\.", "\\bRandom\\b", "\\bThread\\b",
        "\\binterface \\w+ extends Iter", "\\bpackage\\b", "\" \\+", "\\+ \"", "\\bstatic \\{", "[^\\x00-\\x7f]"
    };
    private static final Set<String> IMPORTS = Set.of("java.util.Arrays", "java.util.NoSuchElementException");

    private LanguageTest() {
    }

    public static void main(String[] args) throws IOException {
        String source = Files.readString(SOURCE);
        bannedWords(source);
        imports(source);
        methodsAreShort(source);
        face();
        namesOfPrivateMethods();
        nestedClasses();
        Expect.end(LanguageTest.class);
    }

    private static void bannedWords(String source) {
        for (String banned : BANNED) {
            Matcher matcher = Pattern.compile(banned).matcher(source);
            Expect.same("found " + banned, matcher.find(), false);
        }
        Matcher thrown = Pattern.compile("\\bthrow\\b(?! new \\w+\\(\"[^\"]*\"\\);)").matcher(source);
        Expect.same("every throw has a written text", thrown.find(), false);
        Matcher used = Pattern.compile("\\b(Math|Integer|Long|Arrays)\\.(\\w+)").matcher(source);
        Set<String> allowed = Set.of("floorMod", "min", "max", "bitCount", "fill");
        while (used.find()) {
            Expect.same("allowed: " + used.group(), allowed.contains(used.group(2)), true);
        }
    }

    private static void imports(String source) {
        Matcher matcher = Pattern.compile("import ([\\w.]+);").matcher(source);
        while (matcher.find()) {
            Expect.same("import " + matcher.group(1), IMPORTS.contains(matcher.group(1)), true);
        }
    }

    private static void methodsAreShort(String source) {
        int length = 0;
        for (String line : source.split("\n")) {
            length = line.matches(" {4}( {4})?[\\w].*\\) \\{") ? 0 : length + 1;
            boolean isEnd = line.equals("    }") || line.equals("        }");
            Expect.same("a method of 60 lines at most", isEnd && length > 60, false);
            // The heads of the face stand in one line as the document writes them, some of them longer.
            boolean isHead = line.startsWith("    public ") && line.contains(") throws ");
            Expect.same("a line of 120 signs at most", isHead || line.length() <= 120, true);
        }
    }

    private static void face() {
        int constructors = 0;
        for (Constructor<?> constructor : ShoeHouse.class.getDeclaredConstructors()) {
            constructors += Modifier.isPublic(constructor.getModifiers()) ? 1 : 100;
        }
        Expect.same("one public constructor", constructors, 1);
        for (Method method : ShoeHouse.class.getDeclaredMethods()) {
            int modifiers = method.getModifiers();
            Expect.same(method + " is public or private", Modifier.isPublic(modifiers) != Modifier.isPrivate(modifiers), true);
        }
        for (Field field : ShoeHouse.class.getDeclaredFields()) {
            Expect.same(field + " is private", Modifier.isPrivate(field.getModifiers()), true);
        }
    }

    private static void namesOfPrivateMethods() {
        Set<String> names = new HashSet<>();
        for (Method method : ShoeHouse.class.getDeclaredMethods()) {
            if (Modifier.isPublic(method.getModifiers())) {
                names.add(method.getName());
            }
        }
        for (Class<?> owner : classes()) {
            for (Method method : owner.getDeclaredMethods()) {
                boolean isPublic = owner == ShoeHouse.class && Modifier.isPublic(method.getModifiers());
                Expect.same(method + " has a name of its own", isPublic || !names.contains(method.getName()), true);
                Expect.same(method + " has at most seven parameters", method.getParameterCount() <= 7, true);
            }
        }
    }

    private static void nestedClasses() {
        List<Class<?>> classes = classes();
        Expect.same("at most twelve classes", classes.size() <= 12, true);
        for (Class<?> owner : classes) {
            int fields = 0;
            for (Field field : owner.getDeclaredFields()) {
                boolean isStatic = Modifier.isStatic(field.getModifiers());
                Expect.same(field + " is final if static", !isStatic || Modifier.isFinal(field.getModifiers()), true);
                fields += isStatic ? 0 : 1;
            }
            Expect.same(owner + " has at most twenty fields", fields <= 20, true);
        }
    }

    private static List<Class<?>> classes() {
        List<Class<?>> classes = new java.util.ArrayList<>(List.of(ShoeHouse.class.getDeclaredClasses()));
        classes.add(ShoeHouse.class);
        return classes;
    }
}
