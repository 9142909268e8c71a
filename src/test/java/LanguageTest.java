import java.lang.reflect.Constructor;
import java.lang.reflect.Field;
import java.lang.reflect.Method;
import java.lang.reflect.Modifier;
import java.nio.file.Files;
import java.nio.file.Path;
import java.util.Arrays;
import java.util.Set;
import java.util.TreeSet;
import java.util.regex.Matcher;
import java.util.regex.Pattern;

/** The face by its members, and what LANGUAGE.md rules out by the words of the source. */
public final class LanguageTest {
    private static final String[] FACE = {
        "int about(int,int)", "int best(int,int,int,int)", "int change(int,int,int,int)", "int costs(int)",
        "int count(int)", "int end(int)", "int fault(int)", "int feed(int,int,int,int,int)",
        "int fix(int,int)", "int hang(int,int)", "int parts(int,int)", "int play(int)",
        "int prices(int,int,int,int)", "int release(int,int)", "int rule(int,int)", "int sum(int)",
        "int told(int,int)", "int way(int)", "long has(int)"};

    public static void main(String[] args) throws Exception {
        face();
        nested();
        words(Files.readString(Path.of(args[0])));
        Due.finish();
    }

    private static void yes(String what, boolean is) {
        Due.due(what, is ? 1 : 0, 1);
    }

    private static void face() {
        Class<?> x = BranchPlay.class;
        yes("public and final", Modifier.isPublic(x.getModifiers()) && Modifier.isFinal(x.getModifiers()));
        Set<String> open = new TreeSet<>();
        for (Method m : x.getDeclaredMethods()) {
            if (!Modifier.isPrivate(m.getModifiers())) {
                String types = Arrays.toString(Arrays.stream(m.getParameterTypes())
                    .map(Class::getSimpleName).toArray()).replaceAll("[\\[\\] ]", "");
                open.add(m.getReturnType().getSimpleName() + " " + m.getName() + "(" + types + ")");
                yes(m + " is public, not static, throws nothing", Modifier.isPublic(m.getModifiers())
                    && !Modifier.isStatic(m.getModifiers()) && m.getExceptionTypes().length == 0);
            }
        }
        yes("the face is " + open, open.equals(new TreeSet<>(Arrays.asList(FACE))));
        Set<String> constants = new TreeSet<>();
        for (Field f : x.getDeclaredFields()) {
            if (!Modifier.isPrivate(f.getModifiers())) {
                constants.add(f.getName());
            }
        }
        yes("the constants are " + constants, constants.equals(Set.of("NONE", "RANGE", "FULL")));
        Constructor<?>[] made = x.getDeclaredConstructors();
        yes("one public constructor without parameters", made.length == 1
            && Modifier.isPublic(made[0].getModifiers()) && made[0].getParameterCount() == 0);
    }

    private static void nested() {
        Set<String> faceNames = new TreeSet<>();
        for (String m : FACE) {
            faceNames.add(m.replaceAll(".* |\\(.*", ""));
        }
        Class<?>[] inside = BranchPlay.class.getDeclaredClasses();
        yes("at most twelve classes", inside.length + 1 <= 12);
        for (Class<?> k : inside) {
            yes(k + " is static", Modifier.isStatic(k.getModifiers()));
            long own = Arrays.stream(k.getDeclaredFields())
                .filter(f -> !Modifier.isStatic(f.getModifiers())).count();
            yes(k + " has some twenty fields", own <= 20);
            for (Method m : k.getDeclaredMethods()) {
                yes(m + " has a name of its own", !faceNames.contains(m.getName()));
                yes(m + " takes at most seven", m.getParameterCount() <= 7);
            }
        }
    }

    private static void words(String source) {
        String code = source.replaceAll("(?s)/\\*.*?\\*/", "").replaceAll("//[^\n]*", "")
            .replaceAll("\"[^\"]*\"", "\"\"");
        String[] out = {"throw", "throws", "try", "catch", "finally", "synchronized", "assert", "new Object",
            "System\\.(?!arraycopy)", "Math\\.\\w+Exact", "->", "::", "hashCode", "toString", "package",
            "protected", "Thread", "Random", "float", "double", "Integer\\.(?!bitCount)",
            "Long\\.(?!bitCount)"};
        for (String word : out) {
            String whole = Character.isLetter(word.charAt(0)) ? "\\b" + word : word;
            Matcher found = Pattern.compile(word.matches("\\w+") ? whole + "\\b" : whole).matcher(code);
            yes("without '" + word + "'", !found.find());
        }
        Matcher imports = Pattern.compile("(?m)^import (.*);").matcher(code);
        while (imports.find()) {
            yes("import " + imports.group(1), imports.group(1).equals("java.util.Arrays"));
        }
        // Only the constructors make objects, so a run's room does not grow with its calls.
        String makes = code.replaceAll("(?m)^ *(private )?final .* = new .*;$", "")
            .replaceAll("(?s)public BranchPlay\\(\\) \\{.*?\n    \\}", "");
        yes("no 'new' in a method", !Pattern.compile("\\bnew\\b").matcher(makes).find());
        yes("no clone in a method", !makes.contains(".clone("));
    }
}
