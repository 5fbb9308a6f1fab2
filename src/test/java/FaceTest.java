import java.io.IOException;
import java.lang.reflect.Constructor;
import java.lang.reflect.Field;
import java.lang.reflect.Method;
import java.lang.reflect.Modifier;
import java.nio.file.Files;
import java.nio.file.Path;
import java.util.Arrays;
import java.util.HashSet;
import java.util.List;
import java.util.Set;
import java.util.TreeSet;
import java.util.regex.Matcher;
import java.util.regex.Pattern;

/** The public face of the document, and the rules of LANGUAGE.md that a machine can look at. */
public final class FaceTest {
    private static final Set<String> FACE = new TreeSet<>(List.of(
            "int teller()",
            "int tell(int, int, int, int, long, int)",
            "int set(int)",
            "int join(int, int)",
            "boolean equal(int, int)",
            "long known(int, int, int, int)",
            "int conflict(int, int, int)",
            "int settle(int, int, int, int)",
            "boolean batch(int)",
            "boolean endBatch(int)",
            "boolean right(int, int, boolean)",
            "long seen(int, int, int, int)",
            "boolean block(int, int, int)",
            "int number(int)",
            "int lost(int, int, int)",
            "boolean close(int)",
            "boolean mark(int, long, long)",
            "long corrected(int, long, int)"));
    private static final Set<String> FORBIDDEN = Set.of("throw", "throws", "try", "catch", "finally", "synchronized",
            "assert", "protected", "volatile", "native", "transient", "package", "Object", "equals", "hashCode",
            "toString", "out", "Random", "Thread", "var", "Exception", "getClass");
    private static final Set<String> IMPORTS = Set.of("java.util.ArrayList", "java.util.List", "java.util.Arrays");
    private static final int MOST_CLASSES = 12;
    private static final int MOST_FIELDS = 20;
    private static final int MOST_PARAMETERS = 7;
    private static final int MOST_LINES = 60;

    public static void main(String[] args) throws IOException {
        face();
        constants();
        privateMembers();
        nestedClasses();
        String path = args.length > 0 ? args[0] : "src/main/java/ShipSets.java";
        source(Files.readString(Path.of(path)));
        Check.end("FaceTest");
    }

    private static void face() {
        Check.due("public and final", ShipSets.class.getModifiers(), Modifier.PUBLIC | Modifier.FINAL);
        Check.due("no package", ShipSets.class.getPackageName().isEmpty(), true);
        Set<String> found = new TreeSet<>();
        for (Method m : ShipSets.class.getDeclaredMethods()) {
            if (!Modifier.isPrivate(m.getModifiers())) {
                String parameters = Arrays.toString(Arrays.stream(m.getParameterTypes()).map(Class::getName).toArray());
                found.add(m.getReturnType().getName() + " " + m.getName() + "("
                        + parameters.substring(1, parameters.length() - 1) + ")");
                Check.due("public, not static: " + m, m.getModifiers(), Modifier.PUBLIC);
            }
        }
        Check.due("the methods " + found, found.equals(FACE), true);
        Constructor<?>[] constructors = ShipSets.class.getDeclaredConstructors();
        Check.due("one constructor", constructors.length, 1);
        Check.due("public", constructors[0].getModifiers(), Modifier.PUBLIC);
        Check.due("without parameters", constructors[0].getParameterCount(), 0);
    }

    private static void constants() {
        Set<String> found = new TreeSet<>();
        for (Field f : ShipSets.class.getDeclaredFields()) {
            if (!Modifier.isPrivate(f.getModifiers())) {
                found.add(f.getType() + " " + f.getName());
            }
        }
        Check.due("the constants " + found, found.equals(Set.of("int NONE", "long NO_VALUE")), true);
    }

    private static Set<String> publicNames() {
        Set<String> names = new HashSet<>();
        for (String method : FACE) {
            names.add(method.substring(method.indexOf(' ') + 1, method.indexOf('(')));
        }
        return names;
    }

    private static void privateMembers() {
        Set<String> names = publicNames();
        for (Method m : ShipSets.class.getDeclaredMethods()) {
            if (Modifier.isPrivate(m.getModifiers())) {
                Check.due("a private method with a public name: " + m, names.contains(m.getName()), false);
            }
        }
        dueSmall(ShipSets.class);
    }

    private static void nestedClasses() {
        Class<?>[] nested = ShipSets.class.getDeclaredClasses();
        Check.due("few classes", nested.length < MOST_CLASSES, true);
        for (Class<?> c : nested) {
            int modifiers = c.getModifiers();
            Check.due("static: " + c, Modifier.isStatic(modifiers), true);
            Check.due("hidden: " + c, Modifier.isPublic(modifiers) || Modifier.isProtected(modifiers), false);
            dueSmall(c);
        }
    }

    private static void dueSmall(Class<?> c) {
        int fields = 0;
        for (Field f : c.getDeclaredFields()) {
            if (Modifier.isStatic(f.getModifiers())) {
                Check.due("a static field is final: " + f, Modifier.isFinal(f.getModifiers()), true);
            } else {
                fields++;
            }
        }
        Check.due("few fields: " + c, fields <= MOST_FIELDS, true);
        for (Method m : c.getDeclaredMethods()) {
            Check.due("few parameters: " + m, m.getParameterCount() <= MOST_PARAMETERS, true);
        }
        for (Constructor<?> made : c.getDeclaredConstructors()) {
            Check.due("few parameters: " + made, made.getParameterCount() <= MOST_PARAMETERS, true);
        }
    }

    private static void source(String text) {
        String code = text.replaceAll("(?s)/\\*.*?\\*/", " ").replaceAll("//[^\n]*", " ");
        Set<String> words = new HashSet<>(Arrays.asList(code.split("[^A-Za-z0-9_]+")));
        for (String word : FORBIDDEN) {
            Check.due("the word " + word, words.contains(word), false);
        }
        Check.due("a lambda", code.contains("->"), false);
        Check.due("a method reference", code.contains("::"), false);
        Check.due("a static block", Pattern.compile("static\\s*\\{").matcher(code).find(), false);
        Matcher imports = Pattern.compile("import\\s+([\\w.*]+)\\s*;").matcher(code);
        while (imports.find()) {
            Check.due("import " + imports.group(1), IMPORTS.contains(imports.group(1)), true);
        }
        methodsAreShort(text);
    }

    /** A method begins with a line that ends in ") {" at a member's depth, and ends with a brace at the same depth. */
    private static void methodsAreShort(String text) {
        String[] lines = text.split("\n");
        for (int i = 0; i < lines.length; i++) {
            Matcher head = Pattern.compile("^( {4}| {8})(?!if|for|while|switch)\\w.*\\) \\{$").matcher(lines[i]);
            if (head.matches()) {
                int end = i + 1;
                while (end < lines.length && !lines[end].equals(head.group(1) + "}")) {
                    end++;
                }
                Check.due("short: " + lines[i].trim(), end - i < MOST_LINES, true);
            }
        }
    }
}
