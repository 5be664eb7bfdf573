import java.io.IOException;
import java.lang.reflect.Field;
import java.lang.reflect.Modifier;
import java.nio.charset.StandardCharsets;
import java.nio.file.Files;
import java.nio.file.Path;
import java.util.ArrayList;
import java.util.List;
import java.util.Map;
import java.util.Set;
import java.util.TreeMap;
import java.util.TreeSet;
import java.util.regex.Matcher;
import java.util.regex.Pattern;

/** WireLoom.java keeps to ../shared/LANGUAGE.md, as far as its text and its classes tell that. */
final class LanguageTest {
    private static final Path SOURCE = Path.of("src", "main", "java", "WireLoom.java");
    private static final Set<String> LIBRARY = Set.of("Integer.bitCount", "Math.max", "Math.min", "System.arraycopy");
    private static final Set<String> EXCEPTIONS = Set.of("IllegalStateException", "IllegalArgumentException",
        "IndexOutOfBoundsException");
    private static final Set<String> OTHER_NAMES = Set.of("WireLoom", "Integer", "Math", "System");
    private static final Set<String> NO_CALLS = Set.of("if", "for", "while", "switch", "return");
    private static final Pattern METHOD = Pattern.compile("^ +(?:(?:public|private|static|final) )*"
        + "(?:[A-Za-z]+(?:\\[\\])? )?([A-Za-z]+)\\(([^()]*)\\)(?: throws [A-Za-z, ]+)? \\{$", Pattern.MULTILINE);
    private static final Check check = new Check("LanguageTest");

    private record Method(String name, String parameters, String body) {
    }

    private final String text;
    private final List<Method> methods = new ArrayList<>();
    private final Map<String, Integer> depths = new TreeMap<>();

    private LanguageTest(String source) {
        String bare = source.replaceAll("(?s)/\\*.*?\\*/", "").replaceAll("//[^\n]*", "");
        text = bare.replaceAll("\"[^\"\n]*\"", "\"\"").replaceAll("'[^']'", "' '");
        Matcher head = METHOD.matcher(text);
        while (head.find()) {
            if (!NO_CALLS.contains(head.group(1))) {
                methods.add(new Method(head.group(1), head.group(2), bodyFrom(head.end())));
            }
        }
    }

    private String bodyFrom(int start) {
        int open = 1;
        int end = start;
        while (open > 0 && end < text.length()) {
            open += text.charAt(end) == '{' ? 1 : text.charAt(end) == '}' ? -1 : 0;
            end++;
        }
        return text.substring(start, end);
    }

    private static Set<String> all(String pattern, String text) {
        Set<String> found = new TreeSet<>();
        Matcher matcher = Pattern.compile(pattern).matcher(text);
        while (matcher.find()) {
            found.add(matcher.group(1));
        }
        return found;
    }

    private void words() {
        for (String word : all("\\b([a-z]+)\\b", text)) {
            boolean outside = Set.of("package", "import", "synchronized", "assert", "finally", "try", "catch", "native",
                "volatile", "protected", "instanceof", "enum", "interface", "record", "var", "yield").contains(word);
            check.due("rules 1 to 10: no " + word, !outside);
        }
        check.due("rule 2: no lambda", !text.contains("->"));
        check.due("rule 2: no method reference", !text.contains("::"));
        check.due("rule 10: texts are not joined by +", !text.matches("(?s).*(\\+\\s*\"\"|\"\"\\s*\\+).*"));
        Set<String> known = new TreeSet<>(OTHER_NAMES);
        known.addAll(EXCEPTIONS);
        known.addAll(all("\\bclass ([A-Za-z]+)", text));
        for (String name : all("\\b([A-Z][a-z][A-Za-z]*)\\b", text)) {
            check.due("rule 4: " + name + " stands in the library", known.contains(name));
        }
        for (String call : all("\\b((?:Integer|Math|System)\\.[A-Za-z]+)", text)) {
            check.due("rule 4: " + call + " stands in the library", LIBRARY.contains(call));
        }
    }

    private void throwing() {
        for (String thrown : all("\\bthrow\\b([^;]*);", text)) {
            boolean plain = thrown.matches(" new [A-Za-z]+\\((\"\")?\\)")
                && EXCEPTIONS.contains(thrown.replaceAll(" new |\\(.*", ""));
            check.due("rule 6: throw" + thrown, plain);
        }
        for (Method method : methods) {
            boolean makes = Character.isUpperCase(method.name().charAt(0));
            check.due("rule 6: no throw in " + method.name(), !makes || !method.body().contains("throw "));
        }
    }

    private void sizes() {
        check.due("methods are found: " + methods.size(), methods.size() > 60);
        for (Method method : methods) {
            check.due("rule 11: " + method.name() + " is short", method.body().lines().count() <= 60);
            check.due("rule 11: parameters of " + method.name(), method.parameters().split(",").length <= 7);
            check.due("rule 11: depth of " + method.name() + " is " + depth(method.name()), depth(method.name()) <= 8);
        }
        Class<?>[] inside = WireLoom.class.getDeclaredClasses();
        check.due("rule 11: classes", inside.length + 1 <= 12);
        for (Class<?> kind : inside) {
            sizesOf(kind);
        }
        sizesOf(WireLoom.class);
    }

    private static void sizesOf(Class<?> kind) {
        int fields = 0;
        for (Field field : kind.getDeclaredFields()) {
            if (Modifier.isStatic(field.getModifiers())) {
                boolean constant = field.getType().isPrimitive() || field.getType() == String.class;
                check.due("rule 5: " + field, constant && Modifier.isFinal(field.getModifiers()));
            } else {
                fields++;
            }
        }
        check.due("rule 11: fields of " + kind, fields <= 20);
    }

    /** How many calls stand open at most in a call of this name, with it and the library's; no recursion is used. */
    private int depth(String name) {
        Integer known = depths.get(name);
        if (known != null) {
            return known;
        }
        depths.put(name, 1000);
        int deepest = 0;
        for (Method method : methods) {
            if (method.name().equals(name)) {
                for (String called : all("\\b([A-Za-z]+)\\(", method.body())) {
                    deepest = NO_CALLS.contains(called) || called.endsWith("Exception") ? deepest
                        : Math.max(deepest, depth(called));
                }
            }
        }
        depths.put(name, deepest + 1);
        return deepest + 1;
    }

    public static void main(String[] args) throws IOException {
        String source = Files.readString(SOURCE, StandardCharsets.UTF_8);
        LanguageTest test = new LanguageTest(source);
        test.words();
        test.throwing();
        test.sizes();
        check.due("rule 4: signs are 1 to 127", source.chars().allMatch(sign -> sign >= 1 && sign <= 127));
        check.end();
    }
}
