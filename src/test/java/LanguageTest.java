import java.io.IOException;
import java.lang.reflect.Field;
import java.lang.reflect.Method;
import java.lang.reflect.Modifier;
import java.nio.charset.StandardCharsets;
import java.nio.file.Files;
import java.nio.file.Path;
import java.util.Arrays;
import java.util.HashSet;
import java.util.List;
import java.util.Set;
import java.util.TreeSet;
import java.util.regex.Matcher;
import java.util.regex.Pattern;

/** Looks for what LANGUAGE.md rules out, as far as the text and the compiled class show it. */
public final class LanguageTest {
    private static final Path SOURCE = Path.of("src/main/java/CallBench.java");
    private static final Set<String> RULED_OUT = Set.of("throw", "throws", "try", "catch", "finally", "synchronized",
            "assert", "package", "import", "double", "float", "record", "volatile", "transient", "native",
            "System", "Thread", "Object", "equals", "hashCode", "toString", "instanceof", "protected");
    private static final Set<String> LIBRARY = Set.of("Math", "String");
    private static final List<String> FACE = List.of("board", "put", "leaf", "constant", "bind", "drop", "permute",
            "filter", "after", "fold", "guard", "spread", "collect", "widen", "loop", "caught", "ensure", "site",
            "retarget", "arg", "noArgs", "call", "how", "result", "item", "failedAt", "path", "trace", "spent", "type",
            "arity", "about", "reaches", "alike", "quiet", "pin", "sweep", "told", "rule", "status", "digest");
    private static int wrong;

    private LanguageTest() {
    }

    public static void main(String[] args) throws IOException {
        String text = Files.readString(SOURCE, StandardCharsets.US_ASCII);
        String code = text.replaceAll("(?s)/\\*.*?\\*/", "").replaceAll("//[^\n]*", "")
                .replaceAll("\"[^\"\n]*\"", "\"\"");
        words(code);
        methods(code);
        members(CallBench.class);
        if (wrong != 0) {
            System.exit(1);
        }
        System.out.println("LanguageTest: nothing that is ruled out was found");
    }

    private static void wrong(boolean so, String what) {
        if (so) {
            wrong++;
            System.out.println("LanguageTest: " + what);
        }
    }

    private static void words(String code) {
        Matcher words = Pattern.compile("[A-Za-z_]\\w*").matcher(code);
        Set<String> seen = new TreeSet<>();
        while (words.find()) {
            seen.add(words.group());
        }
        for (String w : seen) {
            wrong(RULED_OUT.contains(w) || w.endsWith("Exact"), "the word " + w);
        }
        wrong(code.contains("->") || code.contains("::"), "a lambda or a method reference");
        Matcher types = Pattern.compile("\\b([A-Z][a-z]\\w*)").matcher(code);
        Set<String> own = new HashSet<>(LIBRARY);
        Matcher classes = Pattern.compile("class (\\w+)").matcher(code);
        int count = 0;
        while (classes.find()) {
            own.add(classes.group(1));
            count++;
        }
        wrong(count > 12, count + " classes");
        while (types.find()) {
            wrong(!own.contains(types.group(1)), "the type " + types.group(1));
        }
        Matcher fields = Pattern.compile("(?m)^ +(?:private |public )?static (?!final)[^(;=]*[;=]").matcher(code);
        wrong(fields.find(), "a static field that is not final");
    }

    private static void methods(String code) {
        Matcher heads = Pattern.compile("(?m)^( +)(?:[\\w\\[\\]]+ )*\\w+\\(([^()]*)\\) \\{\n").matcher(code);
        int found = 0;
        while (heads.find()) {
            found++;
            String head = heads.group().trim();
            int end = code.indexOf("\n" + heads.group(1) + "}", heads.end() - 1);
            long lines = end < 0 ? 0 : code.substring(heads.start(), end).lines().count();
            wrong(lines > 60, head + " has " + lines + " lines");
            wrong(heads.group(2).split(",").length > 7, head + " has too many parameters");
        }
        wrong(found < 100, "only " + found + " methods were found");
    }

    private static void members(Class<?> c) {
        Set<String> open = new TreeSet<>();
        for (Method m : c.getDeclaredMethods()) {
            boolean isOpen = Modifier.isPublic(m.getModifiers());
            wrong(!isOpen && !Modifier.isPrivate(m.getModifiers()), "the method " + m);
            wrong(!isOpen && FACE.contains(m.getName()), "a private method " + m.getName());
            if (isOpen) {
                open.add(m.getName());
            }
        }
        wrong(!open.equals(new TreeSet<>(FACE)), "the face is " + open);
        for (Field f : c.getDeclaredFields()) {
            boolean isOpen = Modifier.isPublic(f.getModifiers());
            wrong(!isOpen && !Modifier.isPrivate(f.getModifiers()), "the field " + f);
            wrong(isOpen && !List.of("BAD", "UNKNOWN", "FULL", "TYPE", "NO", "NONE").contains(f.getName()),
                    "the constant " + f);
        }
        wrong(!Modifier.isFinal(c.getModifiers()) || !Modifier.isPublic(c.getModifiers()), "the class's modifiers");
        for (Class<?> inner : c.getDeclaredClasses()) {
            int m = inner.getModifiers();
            wrong(!Modifier.isStatic(m) || Modifier.isPublic(m), "the modifiers of " + inner);
            wrong(inner.getDeclaredFields().length > 40, "the fields of " + inner);
            wrong(Arrays.stream(inner.getDeclaredMethods()).anyMatch(x -> FACE.contains(x.getName())),
                    "a method of the face's names in " + inner);
        }
    }
}
