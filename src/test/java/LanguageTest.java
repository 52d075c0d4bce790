import java.lang.reflect.Constructor;
import java.lang.reflect.Field;
import java.lang.reflect.Method;
import java.lang.reflect.Modifier;
import java.nio.file.Files;
import java.nio.file.Path;
import java.util.ArrayList;
import java.util.HashSet;
import java.util.List;
import java.util.Set;
import java.util.TreeSet;
import java.util.regex.Matcher;
import java.util.regex.Pattern;

/** The rules of LANGUAGE.md that can be seen from the source and from the class itself. */
public final class LanguageTest {
    private static final String[] FACE = {"feed", "end", "lens", "fault", "text", "symbol", "fits", "get", "put", "create",
        "many", "nth", "compare", "set", "goesOn", "parts", "aligned", "key", "laws", "open", "edit", "undo", "copy",
        "moved", "join", "cut", "look"};
    private static final String[] FORBIDDEN = {"throw", "throws", "try", "catch", "finally", "synchronized", "assert", "yield",
        "volatile", "native", "transient", "protected", "var", "Object", "Exception", "System.out", "System.in",
        "System.nanoTime", "System.currentTimeMillis", "Thread", "Random", "float", "double", "hashCode", "toString"};

    private LanguageTest() {
    }

    public static void main(String[] args) throws Exception {
        String home = args.length > 0 ? args[0] : ".";
        List<String> lines = Files.readAllLines(Path.of(home, "src/main/java/PutBack.java"));
        String code = withoutComments(String.join("\n", lines));
        words(code);
        face();
        classes();
        lengths(lines);
        Calls.finish("LanguageTest");
    }

    private static String withoutComments(String code) {
        String made = code.replaceAll("'(\\\\.|[^'\\\\\n])'", "0").replaceAll("\"[^\"\n]*\"", "\"\"");
        return made.replaceAll("(?s)/\\*.*?\\*/", "").replaceAll("//[^\n]*", "");
    }

    private static void words(String code) {
        for (String word : FORBIDDEN) {
            Calls.due("the word " + word, Pattern.compile("(?<![\\w.])" + Pattern.quote(word) + "(?!\\w)").matcher(code).find(),
                false);
        }
        Calls.due("a lambda or a method reference", code.contains("->") || code.contains("::"), false);
        Calls.due("joining by +", Pattern.compile("\"\"\\s*\\+|\\+\\s*\"\"").matcher(code).find(), false);
        Set<String> library = new TreeSet<>();
        Matcher calls = Pattern.compile("\\b(Math|Long|Integer|Arrays|System|String|List|ArrayList)\\.(\\w+)").matcher(code);
        while (calls.find()) {
            library.add(calls.group());
        }
        library.removeAll(Set.of("Math.min", "Math.max", "Long.bitCount", "Arrays.copyOf", "Arrays.fill", "System.arraycopy"));
        Calls.due("of the library " + library, library.size(), 0);
        Matcher imports = Pattern.compile("(?m)^import (.*);").matcher(code);
        while (imports.find()) {
            Calls.due("import", imports.group(1), "java.util.Arrays");
        }
    }

    private static void face() {
        Set<String> wanted = new HashSet<>(List.of(FACE));
        Set<String> found = new HashSet<>();
        for (Method each : PutBack.class.getDeclaredMethods()) {
            boolean open = Modifier.isPublic(each.getModifiers());
            Calls.due(each.getName() + " is private or of the face", Modifier.isPrivate(each.getModifiers()) != open, true);
            if (open) {
                found.add(each.getName());
            } else {
                Calls.due(each.getName() + " has a name of the face", wanted.contains(each.getName()), false);
            }
        }
        Calls.due("the face", found.equals(wanted), true);
        for (Constructor<?> each : PutBack.class.getDeclaredConstructors()) {
            Calls.due("constructor", Modifier.isPublic(each.getModifiers()) && each.getParameterCount() == 0, true);
        }
        for (Field each : PutBack.class.getDeclaredFields()) {
            boolean open = each.getName().equals("NONE");
            Calls.due(each.getName(), Modifier.isPublic(each.getModifiers()), open);
            Calls.due(each.getName(), Modifier.isPrivate(each.getModifiers()), !open);
        }
        Calls.due("public final", PutBack.class.getModifiers(), Modifier.PUBLIC | Modifier.FINAL);
    }

    private static void classes() {
        List<Class<?>> all = new ArrayList<>(List.of(PutBack.class.getDeclaredClasses()));
        Set<String> face = new HashSet<>(List.of(FACE));
        Calls.due("classes", all.size() + 1 <= 12, true);
        all.add(PutBack.class);
        for (Class<?> each : all) {
            int fields = 0;
            for (Field field : each.getDeclaredFields()) {
                boolean fixed = Modifier.isStatic(field.getModifiers());
                Calls.due(each + " " + field.getName(), !fixed || Modifier.isFinal(field.getModifiers()), true);
                fields += fixed ? 0 : 1;
            }
            Calls.due(each + " has " + fields + " fields", fields <= 20, true);
            Calls.due(each + " is static", each == PutBack.class || Modifier.isStatic(each.getModifiers()), true);
            for (Method method : each.getDeclaredMethods()) {
                Calls.due(each + " " + method.getName(), method.getParameterCount() <= 7, true);
                Calls.due(each + " " + method.getName(), each == PutBack.class || !face.contains(method.getName()), true);
            }
        }
    }

    /** No method of more than some sixty lines. */
    private static void lengths(List<String> lines) {
        int begin = 0;
        String name = "";
        for (int i = 0; i < lines.size(); i++) {
            String line = lines.get(i);
            Calls.due("line " + (i + 1) + " is too long", line.length() <= 125, true);
            if (line.matches(" {4}( {4})?\\S.*\\) \\{") && !line.trim().startsWith("for") && !line.trim().startsWith("if")) {
                begin = i;
                name = line.trim();
            }
            if (line.matches(" {4}( {4})?\\}") && begin > 0) {
                Calls.due("lines of " + name, i - begin <= 65, true);
                begin = 0;
            }
        }
    }
}
