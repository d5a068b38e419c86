import java.io.IOException;
import java.lang.reflect.Constructor;
import java.lang.reflect.Method;
import java.lang.reflect.Modifier;
import java.nio.file.Files;
import java.nio.file.Path;
import java.util.ArrayList;
import java.util.List;
import java.util.TreeSet;
import java.util.regex.Matcher;
import java.util.regex.Pattern;

/** The public face is the document's: each head with its result, name, parameters and `throws` part, and no other. */
public final class FaceTest {
    private static final Path DOCUMENT = Path.of("../shared/DOC.md");
    private static final Path SOURCE = Path.of("src/main/java/ShoeHouse.java");
    private static final Pattern BLOCK = Pattern.compile("```java\\n(.*?)```", Pattern.DOTALL);
    private static final Pattern CLASS = Pattern.compile("(?m)^(public [\\w ]*class \\w+[\\w ]*) \\{");
    private static final Pattern PUBLIC = Pattern.compile("\\bpublic [^;{=]*?\\)[^;{]*");
    private static final Pattern IMPORT = Pattern.compile("import [\\w.]+;");
    private static final Pattern SECTION = Pattern.compile("// (---- .*)");
    private static final Pattern TOLD_SECTION = Pattern.compile("Ahead of the calls (.*) the interface says: (---- .*)\\.");

    private FaceTest() {
    }

    public static void main(String[] args) throws IOException {
        String document = Files.readString(DOCUMENT);
        String source = Files.readString(SOURCE);
        String face = find(BLOCK, document, 1);
        headsAreTheDocuments(face, source);
        headsOfPromises(document, source);
        compiledHeads(face);
        importsAndClass(face, source);
        sections(document, source);
        Expect.end(FaceTest.class);
    }

    private static void headsAreTheDocuments(String face, String source) {
        List<String> due = heads(face);
        List<String> got = heads(source);
        Expect.same("heads in the document's block", due.size(), 66);
        Expect.same("public heads of the class", got.size(), due.size());
        for (int i = 0; i < due.size() && i < got.size(); i++) {
            Expect.same("head " + (i + 1), got.get(i), due.get(i));
        }
    }

    /** The promises tell the heads a second time. */
    private static void headsOfPromises(String document, String source) {
        List<String> told = new ArrayList<>();
        Matcher matcher = Pattern.compile("(?m)^## Promise \\d+: .*\\n\\n`([^`]*)`:").matcher(document);
        while (matcher.find()) {
            told.add("public " + plain(matcher.group(1)));
        }
        Expect.same("heads of promises", told.size(), 66);
        for (String head : told) {
            Expect.same("has " + head, heads(source).contains(head), true);
        }
    }

    /** What the machine sees: the names of parameters are gone there, and exceptions are written in full. */
    private static void compiledHeads(String face) {
        TreeSet<String> due = new TreeSet<>();
        for (String head : heads(face)) {
            due.add(withoutNames(head));
        }
        TreeSet<String> got = new TreeSet<>();
        for (Constructor<?> constructor : ShoeHouse.class.getDeclaredConstructors()) {
            got.add(withoutPackages(constructor.toString()));
        }
        for (Method method : ShoeHouse.class.getDeclaredMethods()) {
            if (!Modifier.isPrivate(method.getModifiers()) && !method.isSynthetic()) {
                got.add(withoutPackages(method.toString()));
            }
        }
        Expect.same("compiled heads", String.join("\n", got), String.join("\n", due));
    }

    private static void importsAndClass(String face, String source) {
        Matcher imported = IMPORT.matcher(face);
        while (imported.find()) {
            Expect.same(imported.group(), source.contains(imported.group()), true);
        }
        Expect.same("the head of the class", find(CLASS, source, 1), find(CLASS, face, 1));
        Expect.same("the class is public", Modifier.isPublic(ShoeHouse.class.getModifiers()), true);
        Expect.same("the class is final", Modifier.isFinal(ShoeHouse.class.getModifiers()), true);
        Expect.same("public fields", ShoeHouse.class.getFields().length, 0);
        Expect.same("public classes inside", ShoeHouse.class.getClasses().length, 0);
    }

    /** The calls that the document puts under a heading stand under it in the source, and no others. */
    private static void sections(String document, String source) {
        Matcher told = TOLD_SECTION.matcher(document);
        int sections = 0;
        while (told.find()) {
            String due = told.group(1).replace("`", "");
            Expect.same(told.group(2), namesUnder(told.group(2), source), due);
            sections++;
        }
        Expect.same("sections of the document", sections, 6);
    }

    private static String namesUnder(String heading, String source) {
        String names = "";
        String current = "";
        for (String line : source.split("\n")) {
            Matcher section = SECTION.matcher(line);
            Matcher head = PUBLIC.matcher(line);
            if (section.find()) {
                current = section.group(1);
            } else if (current.equals(heading) && head.find()) {
                String upToName = head.group().substring(0, head.group().indexOf('('));
                names += (names.isEmpty() ? "" : ", ") + upToName.substring(upToName.lastIndexOf(' ') + 1);
            }
        }
        return names;
    }

    private static List<String> heads(String text) {
        List<String> heads = new ArrayList<>();
        Matcher matcher = PUBLIC.matcher(text.replaceAll("(?s)/\\*.*?\\*/|//[^\n]*", ""));
        while (matcher.find()) {
            if (!matcher.group().contains(" class ")) {
                heads.add(plain(matcher.group()));
            }
        }
        return heads;
    }

    private static String plain(String head) {
        return head.replaceAll("\\s+", " ").trim();
    }

    private static String withoutNames(String head) {
        int end = head.indexOf(')') + 1;
        String upToThrows = head.substring(0, end).replaceAll("(\\w+) \\w+([,)])", "$1$2");
        return (upToThrows + head.substring(end)).replace(", ", ",");
    }

    private static String withoutPackages(String head) {
        return head.replaceAll("\\bjava\\.(lang|util)\\.", "").replace("ShoeHouse.", "").replace(", ", ",");
    }

    private static String find(Pattern pattern, String text, int group) {
        Matcher matcher = pattern.matcher(text);
        return matcher.find() ? matcher.group(group) : "";
    }
}
