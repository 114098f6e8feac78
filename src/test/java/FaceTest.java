import java.io.IOException;
import java.lang.reflect.Constructor;
import java.lang.reflect.Field;
import java.lang.reflect.Method;
import java.lang.reflect.Modifier;
import java.nio.file.Files;
import java.nio.file.Path;
import java.util.Arrays;
import java.util.List;
import java.util.Set;
import java.util.TreeSet;
import java.util.regex.Matcher;
import java.util.regex.Pattern;

/** The public face of the document, and those rules of LANGUAGE.md that can be seen from the class and its text. */
public final class FaceTest {
    private static final Due DUE = new Due("FaceTest");

    private static final Set<String> METHODS = Set.of("int feed(int, int, int, int, int)", "int end(int)", "int road()", "int fault(int)",
        "int cart(int, int)", "int counter(int, int)", "int pays(int, int)", "int bird(int, int)", "int income(int)",
        "int come(int, int)", "int doubt(int)", "int learn(int, int)", "boolean undo()", "boolean redo()",
        "int party(int, int, int, int, int)", "int heaps(int, int, int)", "int rest()", "int teach(int)", "int seats()", "int lies(int)",
        "int sight(int, int, int)", "boolean untell(int)", "int later(int)", "int came(int, int)", "int image(int)", "int back(int)",
        "int about(int)");

    private static void face() {
        DUE.is("public and final", CrowToll.class.getModifiers(), Modifier.PUBLIC | Modifier.FINAL);
        Constructor<?>[] made = CrowToll.class.getDeclaredConstructors();
        DUE.is("one constructor", made.length, 1);
        DUE.is("it is public, without arguments", Modifier.isPublic(made[0].getModifiers()) && made[0].getParameterCount() == 0, true);
        Set<String> open = new TreeSet<>();
        Set<String> names = new TreeSet<>();
        for (Method m : CrowToll.class.getDeclaredMethods()) {
            if (!Modifier.isPrivate(m.getModifiers())) {
                String args = Arrays.toString(Arrays.stream(m.getParameterTypes()).map(Class::getName).toArray());
                open.add(m.getReturnType() + " " + m.getName() + "(" + args.substring(1, args.length() - 1) + ")");
                names.add(m.getName());
                DUE.is(m.getName() + " is public and not static", m.getModifiers(), Modifier.PUBLIC);
            }
        }
        DUE.is("the methods are those of the document, not " + open, open.equals(new TreeSet<>(METHODS)), true);
        for (Method m : CrowToll.class.getDeclaredMethods()) {
            DUE.is("private " + m.getName(), Modifier.isPrivate(m.getModifiers()) && names.contains(m.getName()), false);
        }
        for (Field f : CrowToll.class.getDeclaredFields()) {
            DUE.is("field " + f.getName() + " is private, or NONE", Modifier.isPrivate(f.getModifiers()) || f.getName().equals("NONE"), true);
            DUE.is("static field " + f.getName() + " is final", Modifier.isStatic(f.getModifiers()) && !Modifier.isFinal(f.getModifiers()), false);
        }
        DUE.is("NONE", CrowToll.NONE, -1);
        Class<?>[] inside = CrowToll.class.getDeclaredClasses();
        DUE.is("some twelve classes", inside.length + 1 <= 12, true);
        for (Class<?> c : inside) {
            DUE.is(c + " is static", Modifier.isStatic(c.getModifiers()), true);
            for (Method m : c.getDeclaredMethods()) {
                DUE.is(c + " has a method with a public name: " + m.getName(), names.contains(m.getName()), false);
            }
            long fields = Arrays.stream(c.getDeclaredFields()).filter(f -> !Modifier.isStatic(f.getModifiers())).count();
            DUE.is(c + " has some twenty fields, not " + fields, fields <= 20, true);
        }
    }

    private static String withoutCommentsAndTexts(String source) {
        return source.replaceAll("(?s)/\\*.*?\\*/", "").replaceAll("//.*", "").replaceAll("\"[^\"]*\"", "\"\"").replaceAll("'\\\\?.'", "0");
    }

    private static void text() throws IOException {
        String source = Files.readString(Path.of("src/main/java/CrowToll.java"));
        DUE.is("signs 1 to 127 alone", source.chars().allMatch(c -> c > 0 && c < 128), true);
        String code = withoutCommentsAndTexts(source);
        for (String word : List.of("throw", "throws", "try", "catch", "finally", "synchronized", "assert", "package", "protected", "native",
                "volatile", "Object", "Random", "Thread", "double", "float", "equals", "hashCode", "toString")) {
            DUE.is("the word " + word, Pattern.compile("\\b" + word + "\\b").matcher(code).find(), false);
        }
        DUE.is("no lambda, no method reference", code.contains("->") || code.contains("::"), false);
        Matcher imports = Pattern.compile("import ([^;]*);").matcher(code);
        while (imports.find()) {
            DUE.is("import " + imports.group(1), imports.group(1).equals("java.util.Arrays"), true);
        }
        Matcher library = Pattern.compile("\\b(System|Arrays|Math|Integer|Long|String)\\.(\\w+)").matcher(code.replaceAll("import [^;]*;", ""));
        Set<String> fine = Set.of("System.arraycopy", "Arrays.fill", "Math.min", "Math.max");
        while (library.find()) {
            DUE.is("the library's " + library.group(), fine.contains(library.group()), true);
        }
        lengths(code.split("\n"));
    }

    /** A method begins with a line of four or eight blanks that ends in ") {", and ends with its bracket. */
    private static void lengths(String[] lines) {
        for (int i = 0; i < lines.length; i++) {
            Matcher head = Pattern.compile("^( {4}| {8})(?:[\\w\\[\\]]+ )+\\w+\\(([^)]*)\\) \\{$").matcher(lines[i]);
            if (head.find()) {
                int end = i;
                while (end < lines.length - 1 && !lines[end].equals(head.group(1) + "}")) {
                    end++;
                }
                DUE.is("some sixty lines at most:" + lines[i], end - i + 1 <= 60, true);
                DUE.is("seven arguments at most:" + lines[i], head.group(2).split(",").length <= 7, true);
            }
        }
    }

    public static void main(String[] args) throws IOException {
        face();
        text();
        DUE.finish();
    }
}
