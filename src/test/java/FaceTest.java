import java.lang.reflect.Constructor;
import java.lang.reflect.Field;
import java.lang.reflect.Method;
import java.lang.reflect.Modifier;
import java.nio.file.Files;
import java.nio.file.Path;
import java.util.List;
import java.util.TreeSet;
import java.util.regex.Matcher;
import java.util.regex.Pattern;

/** The face of the class, and what a search of its text can tell of the language's rules. */
public final class FaceTest {
    private static final List<String> METHODS = List.of(
            "say(int,int,int):int", "unsay(int,int,int):int", "rule(int,boolean):int", "run():int",
            "size():int", "triple(int):int", "round(int,int,int):int", "ways(int,int,int):int",
            "way(int,int,int,int,int):int", "clashes():int", "clash(int,int):int", "group(int):int",
            "said():int");
    private static final List<String> CONSTANTS = List.of("BAD=-1", "NO=-2", "FULL=-3", "LARGE=-4");
    private static final String FORBIDDEN =
            "\\b(throw|throws|try|catch|synchronized|assert|System\\.(out|err|nanoTime|currentTimeMillis)"
                    + "|Random|Thread|Exact)\\b|->|::|Exact\\(";

    private static int wrong = 0;

    public static void main(String[] args) throws Exception {
        face();
        noOtherState();
        text();
        System.out.println(wrong == 0 ? "the face is as due" : wrong + " things are not as due");
        if (wrong != 0) {
            System.exit(1);
        }
    }

    private static void due(String what, Object got, Object want) {
        if (!got.equals(want)) {
            wrong++;
            System.out.println(what + ": " + got + ", due is " + want);
        }
    }

    private static void face() throws IllegalAccessException {
        Class<?> face = RlRounds.class;
        due("public and final", Modifier.isPublic(face.getModifiers()) && Modifier.isFinal(face.getModifiers()), true);
        TreeSet<String> methods = new TreeSet<>();
        TreeSet<String> names = new TreeSet<>();
        TreeSet<String> privates = new TreeSet<>();
        for (Method method : face.getDeclaredMethods()) {
            if (Modifier.isPrivate(method.getModifiers())) {
                privates.add(method.getName());
                continue;
            }
            StringBuilder row = new StringBuilder(method.getName()).append('(');
            for (Class<?> type : method.getParameterTypes()) {
                row.append(row.charAt(row.length() - 1) == '(' ? "" : ",").append(type.getName());
            }
            methods.add(row.append("):").append(method.getReturnType().getName()).toString());
            names.add(method.getName());
        }
        due("methods", methods, new TreeSet<>(METHODS));
        privates.retainAll(names);
        due("private methods with the name of a public one", privates, new TreeSet<String>());
        TreeSet<String> constants = new TreeSet<>();
        for (Field field : face.getDeclaredFields()) {
            if (!Modifier.isPrivate(field.getModifiers())) {
                due(field.getName() + " is public static final", field.getModifiers(),
                        Modifier.PUBLIC | Modifier.STATIC | Modifier.FINAL);
                constants.add(field.getName() + "=" + field.getInt(null));
            }
        }
        due("constants", constants, new TreeSet<>(CONSTANTS));
        Constructor<?>[] made = face.getDeclaredConstructors();
        due("constructors", made.length, 1);
        due("the constructor is public and takes nothing",
                Modifier.isPublic(made[0].getModifiers()) && made[0].getParameterCount() == 0, true);
    }

    private static void noOtherState() {
        checkStatics(RlRounds.class);
        for (Class<?> inside : RlRounds.class.getDeclaredClasses()) {
            due(inside.getName() + " is static", Modifier.isStatic(inside.getModifiers()), true);
            checkStatics(inside);
            for (Method method : inside.getDeclaredMethods()) {
                for (String row : METHODS) {
                    due(inside.getName() + "." + method.getName() + " has the name of a public one",
                            row.startsWith(method.getName() + "("), false);
                }
            }
        }
    }

    private static void checkStatics(Class<?> type) {
        for (Field field : type.getDeclaredFields()) {
            if (Modifier.isStatic(field.getModifiers())) {
                due(type.getName() + "." + field.getName() + " is final", Modifier.isFinal(field.getModifiers()), true);
            }
        }
        due(type.getName() + ": at most twenty fields", fields(type) <= 20, true);
        for (Method method : type.getDeclaredMethods()) {
            due(method.getName() + ": at most seven parameters", method.getParameterCount() <= 7, true);
        }
    }

    private static int fields(Class<?> type) {
        int count = 0;
        for (Field field : type.getDeclaredFields()) {
            count += Modifier.isStatic(field.getModifiers()) ? 0 : 1;
        }
        return count;
    }

    private static void text() throws java.io.IOException {
        String source = Files.readString(Path.of("src/main/java/RlRounds.java"));
        String code = source.replaceAll("(?s)/\\*.*?\\*/", "").replaceAll("//[^\n]*", "");
        Matcher forbidden = Pattern.compile(FORBIDDEN).matcher(code);
        while (forbidden.find()) {
            due("a forbidden word in the code", forbidden.group(), "none");
        }
        Matcher imports = Pattern.compile("import ([^;]*);").matcher(code);
        while (imports.find()) {
            due("an import", imports.group(1), "java.util.Arrays");
        }
        due("a package line", code.startsWith("package") || code.contains("\npackage"), false);
        for (int i = 0; i < source.length(); i++) {
            if (source.charAt(i) > 126) {
                due("a character at " + i, (int) source.charAt(i), "ASCII");
            }
        }
    }
}
