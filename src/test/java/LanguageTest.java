import java.io.IOException;
import java.lang.reflect.Constructor;
import java.lang.reflect.Field;
import java.lang.reflect.Method;
import java.lang.reflect.Modifier;
import java.nio.file.Files;
import java.nio.file.Path;
import java.util.HashSet;
import java.util.Set;
import java.util.regex.Matcher;
import java.util.regex.Pattern;

/** Rules of LANGUAGE.md that can be read off the class and its source; the argument is the project's root. */
public final class LanguageTest {
    public static void main(String[] args) throws IOException {
        theFace();
        Path root = Path.of(args.length > 0 ? args[0] : ".");
        String source = Files.readString(root.resolve("src/main/java/GateManners.java"));
        String code = source.replaceAll("(?s)/\\*.*?\\*/", "").replaceAll("//[^\n]*", "");
        theSource(code);
        theMethods(code);
        Due.end();
    }

    private static void theFace() {
        Due.due("rule 1: final", Modifier.isFinal(GateManners.class.getModifiers()) ? 1 : 0, 1);
        Set<String> names = new HashSet<>();
        for (Method method : GateManners.class.getDeclaredMethods()) {
            if (Modifier.isPublic(method.getModifiers())) {
                names.add(method.getName());
            } else {
                Due.due("rule 1: private " + method.getName(), Modifier.isPrivate(method.getModifiers()) ? 1 : 0, 1);
            }
        }
        Due.due("rule 1: methods of the face", names.size(), 44);
        for (Constructor<?> constructor : GateManners.class.getDeclaredConstructors()) {
            Due.due("rule 1: constructor", constructor.getParameterCount(), 0);
        }
        checkMembers(GateManners.class, names);
        for (Class<?> inside : GateManners.class.getDeclaredClasses()) {
            Due.due("rule 2: static " + inside, Modifier.isStatic(inside.getModifiers()) ? 1 : 0, 1);
            checkMembers(inside, names);
        }
    }

    private static void checkMembers(Class<?> owner, Set<String> names) {
        for (Method method : owner.getDeclaredMethods()) {
            Due.due("rule 11: parameters of " + method, method.getParameterCount() <= 7 ? 1 : 0, 1);
            if (!Modifier.isPublic(method.getModifiers())) {
                Due.due("rule 1: a public name, " + method, names.contains(method.getName()) ? 1 : 0, 0);
            }
        }
        int fields = 0;
        for (Field field : owner.getDeclaredFields()) {
            boolean isStatic = Modifier.isStatic(field.getModifiers());
            fields += isStatic ? 0 : 1;
            Due.due("rule 5: final " + field, !isStatic || Modifier.isFinal(field.getModifiers()) ? 1 : 0, 1);
            Due.due("rule 1: hidden " + field, Modifier.isPublic(field.getModifiers()) ? 1 : 0, 0);
        }
        Due.due("rule 11: fields of " + owner, fields <= 20 ? 1 : 0, 1);
    }

    private static void theSource(String code) {
        String[] banned = {"throw", "throws", "try", "catch", "finally", "synchronized", "assert", "package", "import",
            "protected", "native", "volatile", "yield", "var", "double", "float", "Object", "Thread", "System.out",
            "Random", "equals", "hashCode", "toString", "goto"};
        for (String word : banned) {
            boolean has = Pattern.compile("\\b" + Pattern.quote(word) + "\\b").matcher(code).find();
            Due.due("word " + word, has ? 1 : 0, 0);
        }
        Due.due("rule 2: no lambda, no method reference", code.contains("->") || code.contains("::") ? 1 : 0, 0);
        Matcher library = Pattern.compile("\\b([A-Z][a-z]\\w*)\\.([a-z]\\w*)\\(").matcher(code);
        Set<String> allowed = Set.of("System.arraycopy", "Math.min", "Math.max", "Integer.bitCount",
                "Integer.numberOfTrailingZeros");
        while (library.find()) {
            String call = library.group(1) + "." + library.group(2);
            Due.due("rule 4: " + call, allowed.contains(call) ? 1 : 0, 1);
        }
        for (char c : code.toCharArray()) {
            Due.due("rule 4: a sign above 127", c > 127 ? 1 : 0, 0);
        }
    }

    /** Methods stay short, and none but constructors and fields makes an object. */
    private static void theMethods(String code) {
        Pattern begin = Pattern.compile("( {4}| {8})(?!for |if |while |switch |} )(\\S.*\\)) \\{");
        int length = 0;
        String name = "";
        String end = "";
        for (String line : code.split("\n")) {
            Matcher method = begin.matcher(line);
            if (name.isEmpty() && method.matches()) {
                name = method.group(2);
                end = method.group(1) + "}";
                length = 0;
            }
            length++;
            if (!name.isEmpty() && line.equals(end)) {
                Due.due("rule 11: length of " + name, length <= 60 ? 1 : 0, 1);
                name = "";
            }
            boolean isField = line.trim().startsWith("final ") || line.trim().startsWith("private final ");
            boolean isConstructor = name.startsWith("public GateManners(") || name.startsWith("Farm(");
            if (line.contains("new ") && !isField) {
                Due.due("the room: new in " + name, isConstructor ? 1 : 0, 1);
            }
        }
    }
}
