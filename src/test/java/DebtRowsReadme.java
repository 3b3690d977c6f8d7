import java.io.File;
import java.io.IOException;
import java.lang.reflect.InvocationTargetException;
import java.lang.reflect.Method;
import java.lang.reflect.Modifier;
import java.nio.file.Files;
import java.nio.file.Path;
import java.util.List;
import java.util.Set;
import java.util.TreeSet;
import java.util.regex.Matcher;
import java.util.regex.Pattern;

/** What README.md says of the class and of its tests is so: the example, the table of calls, the list of tests. */
public final class DebtRowsReadme {
    private static final Pattern EXAMPLE = Pattern.compile("rows\\.(\\w+)\\((.*?)\\);\\s+// (\\S+): .+");
    private static final Pattern ROW = Pattern.compile("\\| `(\\w+)\\((.*?)\\)` \\| .+ \\|");
    private static final Pattern TEST = Pattern.compile("- `src/test/java/(\\w+)\\.java`: .+");

    private static int wrong = 0;

    private static void tell(String what) {
        wrong++;
        System.out.println("README.md: " + what);
    }

    private static Method methodOf(String name) {
        for (Method m : DebtRows.class.getDeclaredMethods()) {
            if (Modifier.isPublic(m.getModifiers()) && m.getName().equals(name)) {
                return m;
            }
        }
        return null;
    }

    private static Object valueOf(String word, Class<?> type) {
        if (type == boolean.class) {
            return Boolean.valueOf(word);
        }
        return type == long.class ? (Object) Long.valueOf(word) : (Object) Integer.valueOf(word);
    }

    private static String answer(DebtRows rows, String name, String[] words) throws IllegalAccessException {
        Method m = methodOf(name);
        if (m == null || m.getParameterCount() != words.length) {
            return "nothing, as there is no such call";
        }
        Object[] values = new Object[words.length];
        for (int i = 0; i < words.length; i++) {
            values[i] = valueOf(words[i], m.getParameterTypes()[i]);
        }
        try {
            return String.valueOf(m.invoke(rows, values));
        } catch (InvocationTargetException thrown) {
            return thrown.getCause().getClass().getSimpleName();
        }
    }

    private static void theExample(List<String> lines) throws IllegalAccessException {
        int begin = lines.indexOf("```java");
        int end = begin + 1;
        while (end < lines.size() && !lines.get(end).equals("```")) {
            end++;
        }
        if (begin < 0 || end >= lines.size() || !lines.get(begin + 1).equals("DebtRows rows = new DebtRows();")) {
            tell("there is no example that makes an object");
            return;
        }
        DebtRows rows = new DebtRows();
        for (String line : lines.subList(begin + 2, end)) {
            Matcher m = EXAMPLE.matcher(line);
            if (!m.matches()) {
                tell("this line of the example does not tell an answer: " + line);
                continue;
            }
            String got = answer(rows, m.group(1), m.group(2).split(", "));
            if (!got.equals(m.group(3))) {
                tell(line + " .. the class answers " + got);
            }
        }
    }

    private static Set<String> told(List<String> lines, Pattern pattern) {
        Set<String> found = new TreeSet<>();
        for (String line : lines) {
            Matcher m = pattern.matcher(line);
            if (m.matches()) {
                found.add(m.group(1));
            }
        }
        return found;
    }

    private static void theCalls(List<String> lines) {
        Set<String> calls = new TreeSet<>();
        for (Method m : DebtRows.class.getDeclaredMethods()) {
            if (Modifier.isPublic(m.getModifiers())) {
                calls.add(m.getName());
            }
        }
        Set<String> told = told(lines, ROW);
        if (!told.equals(calls)) {
            tell("its table has " + told + ", the class has " + calls);
        }
        for (String line : lines) {
            Matcher m = ROW.matcher(line);
            if (m.matches() && methodOf(m.group(1)) != null
                    && methodOf(m.group(1)).getParameterCount() != m.group(2).split(", ").length) {
                tell("the arguments are not those of the class: " + line);
            }
        }
    }

    private static void theTests(List<String> lines) {
        Set<String> tests = new TreeSet<>();
        File[] files = new File("src/test/java").listFiles();
        for (File file : files == null ? new File[0] : files) {
            tests.add(file.getName().replace(".java", ""));
        }
        Set<String> told = told(lines, TEST);
        if (!told.equals(tests)) {
            tell("it lists the tests " + told + ", there are " + tests);
        }
    }

    public static void main(String[] args) throws IOException, IllegalAccessException {
        List<String> lines = Files.readAllLines(Path.of("README.md"));
        theExample(lines);
        theCalls(lines);
        theTests(lines);
        System.out.println(wrong == 0 ? "README.md says what is so" : wrong + " things are not as README.md says");
        if (wrong != 0) {
            System.exit(1);
        }
    }
}
