import java.lang.reflect.Array;
import java.lang.reflect.Field;
import java.lang.reflect.Method;
import java.lang.reflect.Modifier;
import java.nio.file.Files;
import java.nio.file.Path;
import java.util.Collections;
import java.util.HashSet;
import java.util.IdentityHashMap;
import java.util.List;
import java.util.Set;
import java.util.regex.Matcher;
import java.util.regex.Pattern;
import java.util.stream.Stream;

/** That README.md tells the truth: its example is run line by line, its lists are compared. */
public final class ReadmeTest {
    private static final Pattern EXAMPLE = Pattern.compile("(?s)```java\n(.*?)```");
    private static final Pattern CALL = Pattern.compile("x\\.(\\w+)\\((.*?)\\);\\s*// (-?\\w+)(:.*)?");
    private static final Pattern ROW = Pattern.compile("(?m)^\\| `(\\w+)\\((.*?)\\)` \\|");
    private static final Pattern OBJECT_SIZE =
            Pattern.compile("\\((\\d+) objects and arrays with (\\d+) fields and elements");

    private static int wrong = 0;

    public static void main(String[] args) throws Exception {
        String readme = Files.readString(Path.of("README.md"));
        example(readme);
        table(readme);
        constants(readme);
        tests(readme);
        objectSize(readme);
        System.out.println(wrong == 0 ? "README.md is as due" : wrong + " things are not as due");
        if (wrong != 0) {
            System.exit(1);
        }
    }

    private static void due(String what, Object got, Object want) {
        if (!got.equals(want)) {
            wrong++;
            System.out.println(what + ": " + got + ", due is " + want);
        }
    }

    private static void example(String readme) throws Exception {
        Matcher block = EXAMPLE.matcher(readme);
        if (!block.find()) {
            due("an example", "none", "one");
            return;
        }
        RlRounds x = null;
        Set<String> shown = new HashSet<>();
        for (String line : block.group(1).split("\n")) {
            Matcher call = CALL.matcher(line);
            if (line.equals("RlRounds x = new RlRounds();")) {
                x = new RlRounds();
            } else if (x != null && call.matches()) {
                shown.add(call.group(1));
                due(line, answer(x, call.group(1), call.group(2)), number(call.group(3)));
            } else {
                due("a line of the example", line, "a call with its answer");
            }
        }
        due("the methods in the example", shown, publicMethods());
    }

    private static int answer(RlRounds x, String name, String given) throws Exception {
        Method method = methodOf(name);
        String[] texts = given.isEmpty() ? new String[0] : given.split(", ");
        Object[] values = new Object[texts.length];
        for (int i = 0; i < texts.length; i++) {
            boolean isNumber = method.getParameterTypes()[i] == int.class;
            values[i] = isNumber ? (Object) Integer.valueOf(texts[i]) : Boolean.valueOf(texts[i]);
        }
        return (Integer) method.invoke(x, values);
    }

    private static int number(String text) throws Exception {
        return text.matches("-?\\d+") ? Integer.parseInt(text) : RlRounds.class.getField(text).getInt(null);
    }

    private static Method methodOf(String name) {
        for (Method method : RlRounds.class.getDeclaredMethods()) {
            if (Modifier.isPublic(method.getModifiers()) && method.getName().equals(name)) {
                return method;
            }
        }
        throw new IllegalArgumentException(name + " is no method of the face");
    }

    private static Set<String> publicMethods() {
        Set<String> names = new HashSet<>();
        for (Method method : RlRounds.class.getDeclaredMethods()) {
            if (Modifier.isPublic(method.getModifiers())) {
                names.add(method.getName());
            }
        }
        return names;
    }

    private static void table(String readme) {
        Set<String> told = new HashSet<>();
        Matcher row = ROW.matcher(readme);
        while (row.find()) {
            told.add(row.group(1));
            int parameters = row.group(2).isEmpty() ? 0 : row.group(2).split(", ").length;
            due("the parameters of " + row.group(1), parameters, methodOf(row.group(1)).getParameterCount());
        }
        due("the methods in the table", told, publicMethods());
    }

    private static void constants(String readme) throws Exception {
        String words = readme.replaceAll("\\s+", " ");
        for (String name : List.of("BAD", "NO", "FULL", "LARGE")) {
            String telling = "`" + name + "` (" + number(name) + ":";
            due(telling + " is told", words.contains(telling), true);
        }
    }

    private static void tests(String readme) throws Exception {
        try (Stream<Path> files = Files.list(Path.of("src/test/java"))) {
            for (Path file : files.toList()) {
                String name = file.getFileName().toString().replace(".java", "");
                due(name + " is told", readme.contains("- `" + name + "`:"), true);
            }
        }
        due(".ci/run is told", readme.contains("\n.ci/run\n"), true);
    }

    private static void objectSize(String readme) throws Exception {
        Matcher told = OBJECT_SIZE.matcher(readme.replaceAll("\\s+", " "));
        if (!told.find()) {
            due("the size of an object", "not told", "told");
            return;
        }
        Set<Object> seen = Collections.newSetFromMap(new IdentityHashMap<>());
        int elements = elementsOf(new RlRounds(), seen);
        due("objects and arrays", Integer.valueOf(told.group(1)), seen.size());
        due("fields and elements", Integer.valueOf(told.group(2)), elements);
    }

    /** The fields and elements of an object and of all that it holds and that was not seen yet. */
    private static int elementsOf(Object object, Set<Object> seen) throws Exception {
        if (object == null || !seen.add(object)) {
            return 0;
        }
        if (object.getClass().isArray()) {
            return Array.getLength(object);
        }
        int count = 0;
        for (Class<?> type = object.getClass(); type != Object.class; type = type.getSuperclass()) {
            for (Field field : type.getDeclaredFields()) {
                if (Modifier.isStatic(field.getModifiers())) {
                    continue;
                }
                field.setAccessible(true);
                count += 1 + (field.getType().isPrimitive() ? 0 : elementsOf(field.get(object), seen));
            }
        }
        return count;
    }
}
