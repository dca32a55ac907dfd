import java.io.IOException;
import java.lang.reflect.Field;
import java.lang.reflect.Method;
import java.lang.reflect.Modifier;
import java.nio.file.Files;
import java.nio.file.Path;
import java.util.ArrayList;
import java.util.Arrays;
import java.util.List;
import java.util.Set;
import java.util.TreeSet;
import java.util.regex.Matcher;
import java.util.regex.Pattern;

/** Those rules of ../shared/LANGUAGE.md that a machine can see; run from the project's folder. */
public final class LanguageTests {
    private static final Path PROGRAM = Path.of("src", "main", "java", "SignTables.java");
    private static final Set<String> FORBIDDEN = Set.of("throw", "throws", "try", "catch", "finally", "synchronized",
        "assert", "package", "native", "volatile", "transient", "strictfp", "protected", "equals", "hashCode",
        "toString", "Exception", "Error", "Object", "Class", "System", "Character");
    private static final Set<String> IMPORTS = Set.of("java.util.Arrays", "java.util.ArrayList", "java.util.List",
        "java.util.Iterator");
    private static final Set<String> LIBRARY = Set.of("Arrays");

    private static int wrong = 0;

    private static void complain(boolean broken, String what) {
        if (broken) {
            wrong++;
            System.out.println("LANGUAGE.md: " + what);
        }
    }

    private static String withoutComments(String source) {
        return source.replaceAll("(?s)/\\*.*?\\*/", " ").replaceAll("//[^\n]*", " ");
    }

    private static void checkWords(String code) {
        Matcher words = Pattern.compile("[A-Za-z_][A-Za-z_0-9]*").matcher(code.replaceAll("import [^;]*;", ""));
        while (words.find()) {
            complain(FORBIDDEN.contains(words.group()), "the word " + words.group());
        }
        complain(code.contains("->"), "an arrow");
        complain(code.contains("::"), "a method reference");
        complain(code.contains("\""), "a text");
        complain(code.contains("@"), "an annotation");
        complain(code.contains("%") || code.contains(" / "), "a divisor");
        Matcher imports = Pattern.compile("import ([^;]*);").matcher(code);
        while (imports.find()) {
            complain(!IMPORTS.contains(imports.group(1)), "import " + imports.group(1));
        }
        Matcher calls = Pattern.compile("\\b([A-Z][a-z][A-Za-z]*)\\.").matcher(code.replaceAll("import [^;]*;", ""));
        while (calls.find()) {
            complain(!LIBRARY.contains(calls.group(1)), "a call of " + calls.group(1));
        }
    }

    private static void checkMethodLengths(String source) {
        int lines = 0;
        boolean inside = false;
        for (String line : source.split("\n")) {
            if (!inside && line.matches("( {4}| {8})[A-Za-z].*\\) \\{")) {
                inside = true;
                lines = 0;
            }
            lines++;
            if (inside && line.matches("( {4}| {8})\\}")) {
                complain(lines > 60, "a method of " + lines + " lines");
                inside = false;
            }
        }
    }

    private static void checkFace() {
        Set<String> want = new TreeSet<>(Arrays.asList("int unit(int)", "int mark()", "int text()", "int string()",
            "int fold(int,int,int,int)", "int pair(int,int,int)", "int zero(int)", "int range(int,int)",
            "int filter(int,int)", "int drop(int)", "int rule(int,int)", "int run()", "int sign(int)",
            "int place(int,boolean)", "int unitAt(int)", "int units()", "int broken(int)", "int met(int)",
            "int grown(int)", "int table(int)", "int digit(int)", "int count(int)"));
        Set<String> publicNames = new TreeSet<>();
        Set<String> got = new TreeSet<>();
        for (Method m : SignTables.class.getDeclaredMethods()) {
            if (Modifier.isPublic(m.getModifiers())) {
                List<String> types = new ArrayList<>();
                for (Class<?> type : m.getParameterTypes()) {
                    types.add(type.getName());
                }
                got.add(m.getReturnType().getName() + " " + m.getName() + "(" + String.join(",", types) + ")");
                publicNames.add(m.getName());
            }
        }
        complain(!got.equals(want), "the face is " + got);
        for (Method m : SignTables.class.getDeclaredMethods()) {
            complain(!Modifier.isPublic(m.getModifiers()) && !Modifier.isPrivate(m.getModifiers()),
                "neither public nor private: " + m);
            complain(Modifier.isPrivate(m.getModifiers()) && publicNames.contains(m.getName()), "the name of " + m);
            complain(m.getParameterCount() > 7, "too many parameters: " + m);
        }
        Set<String> constants = new TreeSet<>();
        for (Field f : SignTables.class.getDeclaredFields()) {
            if (Modifier.isPublic(f.getModifiers())) {
                constants.add(f.getName());
            } else {
                complain(!Modifier.isPrivate(f.getModifiers()), "not private: " + f);
            }
        }
        complain(!constants.equals(new TreeSet<>(Arrays.asList("BAD", "FULL", "LONG", "NULL", "CAST", "INDEX"))),
            "the constants are " + constants);
        complain(!Modifier.isFinal(SignTables.class.getModifiers()), "the class is not final");
        complain(SignTables.class.getDeclaredConstructors().length != 1, "more than one constructor");
    }

    private static boolean isNameOfTheFace(String name) {
        for (Method m : SignTables.class.getDeclaredMethods()) {
            if (Modifier.isPublic(m.getModifiers()) && m.getName().equals(name)) {
                return true;
            }
        }
        return false;
    }

    private static void checkClass(Class<?> one) {
        int fields = 0;
        for (Field f : one.getDeclaredFields()) {
            complain(Modifier.isStatic(f.getModifiers()) && !Modifier.isFinal(f.getModifiers()), "static: " + f);
            fields += Modifier.isStatic(f.getModifiers()) ? 0 : 1;
        }
        complain(fields > 20, "too many fields: " + one);
        for (Class<?> inside : one.getDeclaredClasses()) {
            complain(!Modifier.isStatic(inside.getModifiers()), "not static: " + inside);
            complain(Modifier.isPublic(inside.getModifiers()) || Modifier.isProtected(inside.getModifiers()),
                "neither private nor package-visible: " + inside);
            for (Method m : inside.getDeclaredMethods()) {
                complain(Modifier.isPrivate(m.getModifiers()) && isNameOfTheFace(m.getName()), "the name of " + m);
                complain(m.getParameterCount() > 7, "too many parameters: " + m);
            }
            checkClass(inside);
        }
    }

    public static void main(String[] args) throws IOException {
        String source = Files.readString(PROGRAM);
        checkWords(withoutComments(source));
        checkMethodLengths(source);
        checkFace();
        checkClass(SignTables.class);
        complain(SignTables.class.getDeclaredClasses().length > 11, "too many classes");
        System.out.println(wrong == 0 ? "the rules that a machine can see are kept" : wrong + " rules are broken");
        if (wrong != 0) {
            System.exit(1);
        }
    }
}
