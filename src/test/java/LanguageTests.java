import java.lang.reflect.Constructor;
import java.lang.reflect.Field;
import java.lang.reflect.Method;
import java.lang.reflect.Modifier;
import java.nio.file.Files;
import java.nio.file.Path;
import java.util.Arrays;
import java.util.Set;
import java.util.TreeSet;
import java.util.regex.Matcher;
import java.util.regex.Pattern;

/** The public face, and the rules of LANGUAGE.md that can be seen in the class or in its text. */
public final class LanguageTests {
    private static final Path SOURCE = Path.of("src/main/java/TideStation.java");

    private static final String[] FACE = {
        "int row(int, int, int)", "int lose(int, int)", "int share(int, int, int)", "int size(int, int)",
        "int put(int, int, int, int, int)", "long get(int, int, int)", "int move(int, int, int, int, int)",
        "long rest(int, int, int)", "int step(int, int, int)", "long whole(int, int)",
        "long phase(int, int, int, int)", "long tide(int, int, int)", "int rack(int, boolean)",
        "int hang(int, int, int, int)", "int read(int, int, int)", "int stepOf(int, int)", "int refused(int)",
        "int why()"};
    private static final String[] CONSTANTS = {"NONE=-1", "BAD=-2", "NULL=-3", "INDEX=-4", "SIZE=-5", "CAST=-6",
        "STORE=-7"};

    /** Words and signs that rules 2 to 6 and 13 leave out, and the floats' own functions and bits. */
    private static final String[] RULED_OUT = {"\\bthrow\\b", "\\btry\\b", "\\bcatch\\b", "\\bsynchronized\\b",
        "\\bassert\\b", "\\bimport\\b", "\\bpackage\\b", "\\bprotected\\b", "->", "::", "\\bFloat\\s*\\.",
        "\\bDouble\\s*\\.", "\\bSystem\\b(?!\\.arraycopy)", "\\bThread\\b", "Exact\\b", "\\bhashCode\\b",
        "\\btoString\\b", "\\bstatic\\s*\\{", "\\bstrictfp\\b", "\\bnative\\b", "@"};

    /** Filled by nestedClasses(). */
    private static final Set<String> ownClasses = new TreeSet<>(Set.of("TideStation"));

    private static int wrong = 0;

    public static void main(String[] args) throws Exception {
        face();
        nestedClasses();
        text();
        oneFile();
        System.out.println(wrong == 0 ? "the language is kept to" : wrong + " rules are broken");
        if (wrong != 0) {
            System.exit(1);
        }
    }

    private static void due(String what, boolean holds) {
        if (!holds) {
            wrong++;
            System.out.println(what);
        }
    }

    private static void face() throws IllegalAccessException {
        Set<String> methods = new TreeSet<>();
        Set<String> publicNames = new TreeSet<>();
        for (Method m : TideStation.class.getDeclaredMethods()) {
            if (Modifier.isPublic(m.getModifiers())) {
                methods.add(signature(m));
                publicNames.add(m.getName());
            } else {
                due("rule 1: " + m + " is not private", Modifier.isPrivate(m.getModifiers()));
            }
        }
        due("rule 1: the methods are " + methods, methods.equals(new TreeSet<>(Arrays.asList(FACE))));
        for (Method m : TideStation.class.getDeclaredMethods()) {
            due("rule 1: " + m + " bears a public name",
                Modifier.isPublic(m.getModifiers()) || !publicNames.contains(m.getName()));
            due("rule 11: parameters of " + m, m.getParameterCount() <= 7);
        }
        Set<String> constants = new TreeSet<>();
        for (Field f : TideStation.class.getDeclaredFields()) {
            if (Modifier.isPublic(f.getModifiers())) {
                due("rule 5: " + f, Modifier.isStatic(f.getModifiers()) && Modifier.isFinal(f.getModifiers()));
                constants.add(f.getName() + "=" + f.getInt(null));
            } else {
                due("rule 1: " + f + " is not private", Modifier.isPrivate(f.getModifiers()));
            }
        }
        due("rule 1: the constants are " + constants, constants.equals(new TreeSet<>(Arrays.asList(CONSTANTS))));
        Constructor<?>[] constructors = TideStation.class.getDeclaredConstructors();
        due("rule 1: the constructor", constructors.length == 1 && constructors[0].getParameterCount() == 0
            && Modifier.isPublic(constructors[0].getModifiers()));
        due("rule 1: final", Modifier.isFinal(TideStation.class.getModifiers()));
    }

    private static String signature(Method m) {
        StringBuilder s = new StringBuilder(m.getReturnType() + " " + m.getName() + "(");
        for (Class<?> c : m.getParameterTypes()) {
            s.append(s.charAt(s.length() - 1) == '(' ? "" : ", ").append(c);
        }
        return s.append(")").toString();
    }

    private static void nestedClasses() {
        Class<?>[] nested = TideStation.class.getDeclaredClasses();
        due("rule 11: some twelve classes", nested.length < 12);
        staticFields(TideStation.class);
        for (Class<?> c : nested) {
            due("rule 2: " + c + " is not static", Modifier.isStatic(c.getModifiers()));
            due("rule 1: " + c + " is public", !Modifier.isPublic(c.getModifiers()));
            ownClasses.add(c.getSimpleName());
            staticFields(c);
        }
    }

    private static void staticFields(Class<?> c) {
        for (Field f : c.getDeclaredFields()) {
            if (Modifier.isStatic(f.getModifiers())) {
                due("rule 5: " + f, Modifier.isFinal(f.getModifiers())
                    && (f.getType() == int.class || f.getType() == long.class));
            }
        }
    }

    private static void text() throws java.io.IOException {
        String code = Files.readString(SOURCE).replaceAll("(?s)/\\*.*?\\*/", "").replaceAll("//[^\n]*", "");
        for (String ruledOut : RULED_OUT) {
            Matcher m = Pattern.compile(ruledOut).matcher(code);
            due("ruled out: " + ruledOut, !m.find());
        }
        Matcher library = Pattern.compile("\\bMath\\s*\\.\\s*(\\w+)").matcher(code);
        while (library.find()) {
            due("rule 4: Math." + library.group(1), Set.of("abs", "min", "max").contains(library.group(1)));
        }
        Matcher className = Pattern.compile("\\b[A-Z]\\w*[a-z]\\w*\\b").matcher(code);
        while (className.find()) {
            String name = className.group();
            due("rule 4: " + name, name.equals("Math") || ownClasses.contains(name));
        }
        shortMethods(code);
    }

    /** A method or a constructor of any class here ends with the first brace that stands as far in as it does. */
    private static void shortMethods(String code) {
        Matcher method = Pattern.compile("(?m)^( {4}| {8})(?! )[^;={}]*\\) \\{\n(?s:.*?)^\\1\\}$").matcher(code);
        int methods = 0;
        while (method.find()) {
            methods++;
            long lines = method.group().lines().count();
            due("rule 11: a method of " + lines + " lines: " + method.group().lines().findFirst().get(), lines <= 60);
        }
        due("rule 11: methods are found", methods > FACE.length);
    }

    private static void oneFile() throws java.io.IOException {
        try (var files = Files.walk(Path.of("src/main"))) {
            due("one file", files.filter(Files::isRegularFile).toList().equals(java.util.List.of(SOURCE)));
        }
    }
}
