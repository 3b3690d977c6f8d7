import java.io.File;
import java.io.IOException;
import java.lang.reflect.Field;
import java.lang.reflect.Method;
import java.lang.reflect.Modifier;
import java.nio.file.Files;
import java.nio.file.Path;
import java.util.ArrayDeque;
import java.util.ArrayList;
import java.util.Deque;
import java.util.List;
import java.util.Set;
import java.util.TreeSet;
import java.util.regex.Matcher;
import java.util.regex.Pattern;

/** The rules of ../shared/LANGUAGE.md that can be seen in the class's text or in what was compiled from it. */
public final class DebtRowsLanguage {
    private static final Path SOURCE = Path.of("src/main/java/DebtRows.java");
    private static final int MOST_LINES = 60;
    private static final int MOST_PARAMETERS = 7;
    private static final int MOST_CLASSES = 12;
    private static final int MOST_FIELDS = 20;

    // Words that the class has no need of; each would need a look at the rules before it may come in.
    private static final List<String> NOT_USED = List.of("package", "import", "try", "catch", "finally",
            "synchronized", "assert", "volatile", "native", "System", "Thread", "Object", "hashCode", "toString",
            "equals", "getMessage", "\\w+Exact", "double", "float");
    private static final Pattern THROW = Pattern.compile("\\bthrow\\b[^;]*;");
    private static final Pattern GOOD_THROW = Pattern.compile("throw new (IllegalStateException"
            + "|IllegalArgumentException|IndexOutOfBoundsException|ArithmeticException)\\(\"\"\\);");

    private static int wrong = 0;

    private static void is(String rule, boolean kept) {
        if (!kept) {
            wrong++;
            System.out.println("LANGUAGE.md, " + rule);
        }
    }

    /** Without what stands in comments and texts, which no rule speaks of. */
    private static String bare(String text) {
        return text.replaceAll("\"(\\\\.|[^\"\\\\])*\"", "\"\"")
                .replaceAll("//[^\n]*", "").replaceAll("(?s)/\\*.*?\\*/", "");
    }

    private static List<Class<?>> classes() {
        List<Class<?>> all = new ArrayList<>();
        all.add(DebtRows.class);
        for (int i = 0; i < all.size(); i++) {
            all.addAll(List.of(all.get(i).getDeclaredClasses()));
        }
        return all;
    }

    private static void theFile() {
        String[] files = new File("src/main/java").list();
        is("one file", files != null && files.length == 1 && files[0].equals("DebtRows.java"));
    }

    private static void rule1() {
        Set<String> open = new TreeSet<>();
        for (Method m : DebtRows.class.getDeclaredMethods()) {
            if (Modifier.isPublic(m.getModifiers())) {
                open.add(m.getName());
            }
        }
        for (Class<?> each : classes()) {
            int modifiers = each.getModifiers();
            is("rule 1: " + each + " is hidden and static", each == DebtRows.class || Modifier.isStatic(modifiers)
                    && !Modifier.isPublic(modifiers) && !Modifier.isProtected(modifiers));
            for (Method m : each.getDeclaredMethods()) {
                is("rule 1: " + m + " bears the name of a public one",
                        Modifier.isPublic(m.getModifiers()) || !open.contains(m.getName()));
            }
        }
    }

    private static void rule5() {
        for (Class<?> each : classes()) {
            for (Field f : each.getDeclaredFields()) {
                boolean constant = Modifier.isFinal(f.getModifiers()) && f.getType().isPrimitive();
                is("rule 5: " + f + " is static and no constant", !Modifier.isStatic(f.getModifiers()) || constant);
            }
        }
    }

    private static void words(String bare) {
        for (String word : NOT_USED) {
            is("the word " + word + " is used", !Pattern.compile("\\b" + word + "\\b").matcher(bare).find());
        }
        is("rule 2: a lambda", !bare.contains("->"));
        is("rule 2: a method reference", !bare.contains("::"));
        is("rule 5: a static block", !Pattern.compile("\\bstatic\\s*\\{").matcher(bare).find());
        is("rule 10: texts joined by +", !bare.contains("\" +") && !bare.contains("+ \""));
    }

    private static void rule6(String bare) {
        Matcher m = THROW.matcher(bare);
        while (m.find()) {
            is("rule 6: " + m.group(), GOOD_THROW.matcher(m.group()).matches());
        }
    }

    private static void rule11() {
        is("rule 11: classes", classes().size() <= MOST_CLASSES);
        for (Class<?> each : classes()) {
            int fields = 0;
            for (Field f : each.getDeclaredFields()) {
                fields += Modifier.isStatic(f.getModifiers()) ? 0 : 1;
            }
            is("rule 11: fields of " + each, fields <= MOST_FIELDS);
            for (Method m : each.getDeclaredMethods()) {
                is("rule 11: parameters of " + m, m.getParameterCount() <= MOST_PARAMETERS);
            }
        }
    }

    /** A block that stands right in a class and is none itself is a method's. */
    private static void lengthOfMethods(String bare) {
        Deque<Integer> lines = new ArrayDeque<>();
        Deque<String> heads = new ArrayDeque<>();
        int line = 1;
        int head = 0;
        for (int i = 0; i < bare.length(); i++) {
            char c = bare.charAt(i);
            if (c == '\n') {
                line++;
            } else if (c == ';') {
                head = i + 1;
            } else if (c == '{') {
                lines.push(line);
                heads.push(bare.substring(head, i).trim());
                head = i + 1;
            } else if (c == '}') {
                String block = heads.pop();
                int length = line - lines.pop();
                boolean method = !isClass(block) && !heads.isEmpty() && isClass(heads.peek());
                is("rule 11: so many lines: " + block, !method || length < MOST_LINES);
                head = i + 1;
            }
        }
    }

    private static boolean isClass(String head) {
        return head.contains("class ");
    }

    public static void main(String[] args) throws IOException {
        String bare = bare(Files.readString(SOURCE));
        theFile();
        rule1();
        rule5();
        words(bare);
        rule6(bare);
        rule11();
        lengthOfMethods(bare);
        System.out.println(wrong == 0 ? "the rules are kept" : wrong + " rules are not kept");
        if (wrong != 0) {
            System.exit(1);
        }
    }
}
