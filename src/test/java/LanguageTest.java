import java.lang.reflect.Constructor;
import java.lang.reflect.Field;
import java.lang.reflect.Method;
import java.lang.reflect.Modifier;
import java.nio.file.Files;
import java.nio.file.Path;
import java.util.Arrays;
import java.util.List;
import java.util.Set;
import java.util.TreeSet;
import java.util.regex.Matcher;
import java.util.regex.Pattern;

/** The face, and those rules of LANGUAGE.md that can be seen from the class and its text. */
public final class LanguageTest {
    private static final Set<String> FACE = new TreeSet<>(List.of(
        "int feed(int,int,int,int,int)", "int load(int)", "int fault(int)", "boolean discard(int)",
        "int module(int,int,int)", "int typeAt(int,int,int,int,int)", "int boot(int)", "int run(int)",
        "int about(int)", "int process(int,int)", "int value(int,int,int)", "int block(int,int)",
        "int channel(int,int,int)", "int output(int,int)"));

    private static final List<String> FORBIDDEN = List.of("throw", "throws", "try", "catch", "finally", "synchronized",
        "assert", "Object", "Integer", "Long", "Thread", "Random", "System.out", "System.nano", "System.current",
        "volatile", "transient", "native", "instanceof", "yield", "var");

    private static final Set<String> LIBRARY = Set.of("Math.max", "Math.min", "Arrays.fill", "Arrays.copyOf",
        "System.arraycopy");

    public static void main(String[] args) throws Exception {
        face();
        classes();
        text(Files.readString(Path.of(args.length > 0 ? args[0] : ".", "src/main/java/SealedProcesses.java")));
        Check.end();
    }

    private static void face() {
        Class<?> face = SealedProcesses.class;
        Check.due("public and final", Modifier.isPublic(face.getModifiers()) && Modifier.isFinal(face.getModifiers()),
            true);
        Set<String> found = new TreeSet<>();
        for (Method method : face.getDeclaredMethods()) {
            if (Modifier.isPublic(method.getModifiers())) {
                Class<?>[] types = method.getParameterTypes();
                String params = String.join(",", Arrays.stream(types).map(Class::getName).toList());
                found.add(method.getReturnType() + " " + method.getName() + "(" + params + ")");
            } else {
                Check.due("private: " + method, Modifier.isPrivate(method.getModifiers()), true);
            }
        }
        Check.due("the face: " + found, found.equals(FACE), true);
        Constructor<?>[] constructors = face.getDeclaredConstructors();
        Check.due("one constructor", constructors.length, 1);
        Check.due("it is public", Modifier.isPublic(constructors[0].getModifiers()), true);
        for (Field field : face.getDeclaredFields()) {
            Check.due("field " + field, field.getName().equals("NONE") ? Modifier.isPublic(field.getModifiers())
                : Modifier.isPrivate(field.getModifiers()), true);
        }
    }

    private static void classes() {
        Class<?>[] inside = SealedProcesses.class.getDeclaredClasses();
        Check.due("classes in all", inside.length + 1 <= 12, true);
        Set<String> names = new TreeSet<>();
        FACE.forEach(method -> names.add(method.replaceAll("^\\w+ |\\(.*", "")));
        for (Class<?> one : inside) {
            Check.due("static: " + one, Modifier.isStatic(one.getModifiers()), true);
            int fields = 0;
            for (Field field : one.getDeclaredFields()) {
                boolean isStatic = Modifier.isStatic(field.getModifiers());
                Check.due("final: " + field, !isStatic || Modifier.isFinal(field.getModifiers()), true);
                fields += isStatic ? 0 : 1;
            }
            Check.due("fields of " + one + ": " + fields, fields <= 20, true);
            for (Method method : one.getDeclaredMethods()) {
                Check.due("a name of the face: " + method, names.contains(method.getName()), false);
                Check.due("parameters of " + method, method.getParameterCount() <= 7, true);
            }
        }
    }

    private static void text(String source) {
        String bare = source.replaceAll("(?s)/\\*.*?\\*/", " ").replaceAll("//[^\n]*", " ");
        for (String word : FORBIDDEN) {
            Check.due("the word " + word, Pattern.compile("\\b" + Pattern.quote(word) + "\\b").matcher(bare).find(),
                false);
        }
        for (String sign : List.of("->", "::", "\"", "@", "[][]", "...")) {
            Check.due("the sign " + sign, bare.contains(sign), false);
        }
        Matcher imports = Pattern.compile("import ([\\w.]+);").matcher(bare);
        while (imports.find()) {
            Check.due("import " + imports.group(1), imports.group(1).equals("java.util.Arrays"), true);
        }
        String code = bare.replaceAll("import[^;]*;", "");
        Matcher library = Pattern.compile("\\b(Math|Arrays|System)\\.\\w+").matcher(code);
        while (library.find()) {
            Check.due("the library's " + library.group(), LIBRARY.contains(library.group()), true);
        }
        Matcher loops = Pattern.compile("\\b(while|do)\\b").matcher(bare);
        Check.due("loops without a counter", loops.find(), false);
        lengths(source);
    }

    private static void lengths(String source) {
        String[] lines = source.split("\n");
        int start = -1;
        for (int i = 0; i < lines.length; i++) {
            if (lines[i].matches("^( {4}| {8})\\S.*\\) \\{$")) {
                start = i;
            } else if (start >= 0 && lines[i].matches("^( {4}| {8})\\}$")) {
                Check.due("lines of " + lines[start].trim(), i - start + 1 <= 60, true);
                start = -1;
            }
            Check.due("width of line " + (i + 1), lines[i].length() <= 120, true);
        }
    }
}
