import java.io.IOException;
import java.lang.reflect.Method;
import java.lang.reflect.Modifier;
import java.nio.file.Files;
import java.nio.file.Path;
import java.util.ArrayList;
import java.util.Arrays;
import java.util.List;
import java.util.TreeSet;
import java.util.regex.Matcher;
import java.util.regex.Pattern;
import java.util.stream.Collectors;
import java.util.stream.Stream;

/** What README.md says of calls, of how much lower refusals lie, and of tests, is so. */
public final class ReadmeTest {
    private static final Pattern CALL = Pattern.compile("x\\.(\\w+)\\(([^)]*)\\);\\s*// (-?\\d+)(:.*)?");
    private static final Pattern LOWER = Pattern.compile("\\| (\\d+) \\| (.*) \\|");
    private static final Pattern NAME = Pattern.compile("`(\\w+)`");

    private static int wrong = 0;

    public static void main(String[] args) throws Exception {
        List<String> lines = Files.readAllLines(Path.of("README.md"));
        callsAnswerAsTold(lines);
        refusalsLieAsTold(lines);
        testsAreTold(String.join("\n", lines));
        System.out.println(wrong == 0 ? "README.md tells what is so" : wrong + " wrong");
        if (wrong != 0) {
            System.exit(1);
        }
    }

    private static void fail(String why) {
        wrong++;
        System.out.println(why);
    }

    private static List<Method> face() {
        return Arrays.stream(SaidRate.class.getDeclaredMethods()).filter(m -> Modifier.isPublic(m.getModifiers()))
            .collect(Collectors.toList());
    }

    private static TreeSet<String> names() {
        return face().stream().map(Method::getName).collect(Collectors.toCollection(TreeSet::new));
    }

    private static void callsAnswerAsTold(List<String> lines) throws Exception {
        SaidRate x = new SaidRate();
        TreeSet<String> unseen = names();
        boolean java = false;
        for (String line : lines) {
            Matcher call = CALL.matcher(line);
            if (line.startsWith("```")) {
                java = line.equals("```java");
            } else if (java && call.matches()) {
                unseen.remove(call.group(1));
                long got = answer(x, call.group(1), call.group(2));
                if (got != Long.parseLong(call.group(3))) {
                    fail(line + " .. answered " + got);
                }
            } else if (java && !line.equals("SaidRate x = new SaidRate();")) {
                fail("no call with its answer: " + line);
            }
        }
        if (!unseen.isEmpty()) {
            fail("calls that are not shown: " + unseen);
        }
    }

    private static long answer(SaidRate x, String name, String told) throws Exception {
        String[] words = told.isEmpty() ? new String[0] : told.split(", ");
        for (Method call : face()) {
            Class<?>[] types = call.getParameterTypes();
            if (call.getName().equals(name) && types.length == words.length) {
                Object[] with = new Object[types.length];
                for (int i = 0; i < types.length; i++) {
                    with[i] = argument(types[i], words[i]);
                }
                return ((Number) call.invoke(x, with)).longValue();
            }
        }
        throw new IllegalArgumentException("no such call: " + name + "(" + told + ")");
    }

    private static Object argument(Class<?> type, String word) {
        if (type == boolean.class) {
            return Boolean.valueOf(word);
        }
        if (type == long.class) {
            return Long.decode(word.replace("L", ""));
        }
        return Integer.decode(word);
    }

    private static void refusalsLieAsTold(List<String> lines) throws Exception {
        List<String> told = new ArrayList<>();
        for (String line : lines) {
            Matcher row = LOWER.matcher(line);
            if (row.matches()) {
                Matcher name = NAME.matcher(row.group(2));
                while (name.find()) {
                    told.add(name.group(1));
                    liesLower(name.group(1), Long.parseLong(row.group(1)));
                }
            }
        }
        TreeSet<String> due = names();
        // the one call that nothing can be wrong with
        due.remove("ringed");
        if (!new TreeSet<>(told).equals(due) || told.size() != due.size()) {
            fail("calls whose refusals are told: " + told + ", due are " + due);
        }
    }

    private static void liesLower(String name, long less) throws Exception {
        for (Method call : face()) {
            if (call.getName().equals(name)) {
                Object[] with = Arrays.stream(call.getParameterTypes())
                    .map(type -> type == boolean.class ? (Object) true : type == long.class ? (Object) 0L : (Object) Integer.MIN_VALUE)
                    .toArray();
                long got = ((Number) call.invoke(new SaidRate(), with)).longValue();
                if (got != SaidRate.BAD - less) {
                    fail(name + ": BAD is " + got + ", not less " + less);
                }
            }
        }
    }

    private static void testsAreTold(String page) throws IOException {
        try (Stream<Path> tests = Files.list(Path.of("src/test/java"))) {
            tests.map(path -> path.getFileName().toString().replace(".java", ""))
                .filter(test -> !page.contains("| `" + test + "`") && !page.contains(", `" + test + "`"))
                .forEach(test -> fail("a test that is not told: " + test));
        }
    }
}
