import java.lang.reflect.Constructor;
import java.lang.reflect.Field;
import java.lang.reflect.Method;
import java.lang.reflect.Modifier;
import java.nio.file.Files;
import java.nio.file.Path;
import java.util.Arrays;
import java.util.Set;
import java.util.TreeSet;
import java.util.regex.Matcher;
import java.util.regex.Pattern;

/** The public face, and the rules of LANGUAGE.md that can be seen in the text. */
final class FaceTest {
    private static final String SOURCE = "src/main/java/GlyphCompiler.java";

    private static final Set<String> METHODS = Set.of(
        "int feed(int, int)", "int wipe()", "int macro(int, int)", "int run()", "int place()", "int forget()", "int clean()",
        "int state(int)", "long number(int)", "long factor(int, int)", "boolean black(int, int)", "int stretch(int, int)",
        "long shown(int)", "int count(int)");

    private static final Set<String> CONSTANTS = Set.of(
        "OK", "REFUSED", "FULL", "STRAY", "UNDEFINED", "DEEP", "SHAPE", "LONG", "SYNTAX", "RANGE", "CONFLICT", "HARD",
        "UNKNOWN", "GRID", "NONE");

    /** What the rules leave out, as far as a word or a sign tells it. */
    private static final String[] LEFT_OUT = {
        "::", "\\bfinally\\b", "\\bsynchronized\\b", "\\bassert\\b", "\\bpackage\\b", "\\bhashCode\\b", "Exact\\b", "\\bstatic\\s*\\{",
        "\\bSystem\\.(?!arraycopy)", "\\bnative\\b", "\\bvolatile\\b", "\\bprotected\\b", "\\bgetMessage\\b", "\\bThread\\b",
        "(?m)^(?!.*\\b(case|default)\\b).*->"};

    public static void main(String[] args) throws Exception {
        methods();
        constants();
        constructor();
        text(Files.readString(Path.of(SOURCE)));
        Check.end();
    }

    private static void methods() {
        Set<String> found = new TreeSet<>();
        Set<String> names = new TreeSet<>();
        for (Method method : GlyphCompiler.class.getDeclaredMethods()) {
            if (!Modifier.isPrivate(method.getModifiers())) {
                String types = Arrays.toString(method.getParameterTypes());
                found.add(method.getReturnType() + " " + method.getName() + "(" + types.substring(1, types.length() - 1) + ")");
                names.add(method.getName());
                Check.due("public " + method.getName(), Modifier.isPublic(method.getModifiers()), true);
                Check.due("static " + method.getName(), Modifier.isStatic(method.getModifiers()), false);
            }
        }
        Check.due("the methods " + found, found.equals(METHODS), true);
        for (Class<?> inside : GlyphCompiler.class.getDeclaredClasses()) {
            Check.due("static class " + inside, Modifier.isStatic(inside.getModifiers()), true);
            for (Method method : inside.getDeclaredMethods()) {
                Check.due("the name of " + method, names.contains(method.getName()), false);
            }
        }
        Check.due("at most twelve classes", GlyphCompiler.class.getDeclaredClasses().length < 12, true);
    }

    private static void constants() {
        Set<String> found = new TreeSet<>();
        for (Field field : GlyphCompiler.class.getDeclaredFields()) {
            int modifiers = field.getModifiers();
            if (!Modifier.isPrivate(modifiers)) {
                found.add(field.getName());
                boolean constant = Modifier.isPublic(modifiers) && Modifier.isStatic(modifiers) && Modifier.isFinal(modifiers);
                Check.due("constant " + field, constant, true);
                Check.due("type of " + field, field.getType() == (field.getName().equals("NONE") ? long.class : int.class), true);
            } else if (Modifier.isStatic(modifiers)) {
                Check.due("final " + field, Modifier.isFinal(modifiers), true);
            }
        }
        Check.due("the constants " + found, found.equals(CONSTANTS), true);
    }

    private static void constructor() {
        Constructor<?>[] made = GlyphCompiler.class.getDeclaredConstructors();
        Check.due("constructors", made.length, 1);
        Check.due("public constructor", Modifier.isPublic(made[0].getModifiers()), true);
        Check.due("parameters of it", made[0].getParameterCount(), 0);
        int modifiers = GlyphCompiler.class.getModifiers();
        Check.due("public final class", Modifier.isPublic(modifiers) && Modifier.isFinal(modifiers), true);
    }

    private static void text(String source) {
        String code = source.replaceAll("(?s)/\\*.*?\\*/", "").replaceAll("//[^\n]*", "");
        for (String sign : LEFT_OUT) {
            Matcher matcher = Pattern.compile(sign).matcher(code);
            Check.due("left out: " + sign, matcher.find(), false);
        }
        Matcher imports = Pattern.compile("\\bimport\\s+([^;]*);").matcher(code);
        while (imports.find()) {
            boolean allowed = imports.group(1).matches("java\\.util\\.(Arrays|ArrayList|List|Iterator|NoSuchElementException)");
            Check.due("import " + imports.group(1), allowed, true);
        }
    }
}
