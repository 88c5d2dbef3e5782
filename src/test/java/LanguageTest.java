import java.lang.reflect.Constructor;
import java.lang.reflect.Field;
import java.lang.reflect.Member;
import java.lang.reflect.Method;
import java.lang.reflect.Modifier;
import java.nio.file.Files;
import java.nio.file.Path;
import java.util.ArrayList;
import java.util.Arrays;
import java.util.List;
import java.util.Set;
import java.util.TreeSet;
import java.util.regex.Matcher;
import java.util.regex.Pattern;

/** The face of the document, and those rules of ../shared/LANGUAGE.md that can be seen in the text or the class. */
public final class LanguageTest {
    private static final Path SOURCE = Path.of("src/main/java/SaidRate.java");
    private static final Path DOCUMENT = Path.of("../shared/DOC.md");
    private static int wrong = 0;

    private static void fault(String what) {
        wrong++;
        System.out.println(what);
    }

    public static void main(String[] args) throws Exception {
        String source = Files.readString(SOURCE);
        for (int i = 0; i < source.length(); i++) {
            if (source.charAt(i) > 126) {
                fault("a sign above 126 at " + i);
            }
        }
        face(Files.readString(DOCUMENT));
        String code = withoutComments(source);
        words(code);
        library(code);
        methods(code);
        classes();
        System.out.println(wrong == 0 ? "the face and the rules are kept" : wrong + " rules are broken");
        if (wrong != 0) {
            System.exit(1);
        }
    }

    private static String withoutComments(String source) {
        return source.replaceAll("(?s)/\\*.*?\\*/", " ").replaceAll("//[^\n]*", " ").replaceAll("\"(\\\\.|[^\"\\\\])*\"", "\"\"");
    }

    private static void face(String document) {
        String block = document.substring(document.indexOf("```java") + 7);
        block = block.substring(0, block.indexOf("```"));
        Set<String> due = new TreeSet<>();
        Matcher method = Pattern.compile("public (int|long) (\\w+)\\(([^)]*)\\);").matcher(block);
        while (method.find()) {
            due.add(method.group(1) + " " + method.group(2) + "(" + method.group(3).replaceAll(" \\w+(,|$)", "$1").replace(", ", ",") + ")");
        }
        Set<String> got = new TreeSet<>();
        Set<String> names = new TreeSet<>();
        for (Method m : SaidRate.class.getDeclaredMethods()) {
            if (Modifier.isPublic(m.getModifiers())) {
                List<String> types = new ArrayList<>();
                Arrays.stream(m.getParameterTypes()).forEach(t -> types.add(t.getSimpleName()));
                got.add(m.getReturnType().getSimpleName() + " " + m.getName() + "(" + String.join(",", types) + ")");
                names.add(m.getName());
            }
            onlyPublicOrPrivate(m);
        }
        if (due.isEmpty() || !due.equals(got)) {
            fault("the methods are " + got + ", due are " + due);
        }
        Set<String> constants = new TreeSet<>();
        for (Field f : SaidRate.class.getDeclaredFields()) {
            onlyPublicOrPrivate(f);
            if (Modifier.isPublic(f.getModifiers())) {
                constants.add(f.getName());
            }
        }
        if (!constants.equals(Set.of("BAD", "NOT", "FULL", "NONE", "NULL", "CAST", "INDEX", "SIZE"))) {
            fault("the constants are " + constants);
        }
        for (Constructor<?> c : SaidRate.class.getDeclaredConstructors()) {
            if (!Modifier.isPublic(c.getModifiers()) || c.getParameterCount() != 0) {
                fault("a constructor that the document has not: " + c);
            }
        }
        for (Class<?> inside : SaidRate.class.getDeclaredClasses()) {
            for (Method m : inside.getDeclaredMethods()) {
                if (names.contains(m.getName())) {
                    fault("a method inside bears a public one's name: " + m);
                }
            }
        }
    }

    private static void onlyPublicOrPrivate(Member m) {
        if (!Modifier.isPublic(m.getModifiers()) && !Modifier.isPrivate(m.getModifiers())) {
            fault("neither public nor private: " + m);
        }
    }

    private static void words(String code) {
        String[] forbidden = {"throw", "throws", "try", "catch", "finally", "synchronized", "assert", "import", "package", "native", "volatile",
            "transient", "protected", "super", "hashCode", "toString", "var", "yield", "Object", "Exception", "Thread", "Random", "System.out",
            "double", "float"};
        for (String word : forbidden) {
            if (Pattern.compile("\\b" + Pattern.quote(word) + "\\b").matcher(code).find()) {
                fault("the word " + word);
            }
        }
        for (String sign : new String[] {"->", "::", "\"", "@"}) {
            if (code.contains(sign)) {
                fault("the sign " + sign);
            }
        }
        if (Pattern.compile("\\w+Exact\\b").matcher(code).find()) {
            fault("a function whose name ends in Exact");
        }
        if (Pattern.compile("static\\s*\\{").matcher(code).find()) {
            fault("a static initialiser block");
        }
        if (Pattern.compile("while\\s*\\(\\s*true|for\\s*\\(\\s*;\\s*;").matcher(code).find()) {
            fault("a loop whose end can't be seen");
        }
    }

    private static void library(String code) {
        Set<String> allowed = Set.of("Math.min", "Math.max", "Math.abs", "Integer.signum", "Integer.bitCount", "System.arraycopy");
        Matcher call = Pattern.compile("\\b(Math|Integer|Long|System|Arrays|String|Character|Boolean|List|ArrayList)\\b(\\.\\w+)?").matcher(code);
        while (call.find()) {
            if (!allowed.contains(call.group())) {
                fault("of the library: " + call.group());
            }
        }
    }

    private static void methods(String code) {
        String[] lines = code.split("\n");
        Pattern head = Pattern.compile("^( {4}| {8})(?! )[^=;]*\\w+\\(([^)]*)\\) \\{$");
        for (int i = 0; i < lines.length; i++) {
            Matcher m = head.matcher(lines[i]);
            if (!m.matches() || lines[i].matches(".*\\b(if|for|while|switch)\\b.*")) {
                continue;
            }
            int end = i;
            while (end < lines.length && !lines[end].equals(m.group(1) + "}")) {
                end++;
            }
            if (end - i > 60) {
                fault("a long method: " + lines[i].trim());
            }
            if (m.group(2).split(",").length > 7) {
                fault("too many parameters: " + lines[i].trim());
            }
        }
    }

    private static void classes() {
        List<Class<?>> all = new ArrayList<>(List.of(SaidRate.class));
        all.addAll(List.of(SaidRate.class.getDeclaredClasses()));
        if (all.size() > 12) {
            fault("more than twelve classes");
        }
        for (Class<?> c : all) {
            boolean inside = c != SaidRate.class;
            if (!Modifier.isFinal(c.getModifiers()) || inside && !Modifier.isStatic(c.getModifiers())) {
                fault("not final, or not static: " + c);
            }
            int fields = 0;
            for (Field f : c.getDeclaredFields()) {
                if (!Modifier.isStatic(f.getModifiers())) {
                    fields++;
                } else if (!Modifier.isFinal(f.getModifiers())) {
                    fault("a static field that is not final: " + f);
                }
            }
            if (fields > 20) {
                fault("more than twenty fields: " + c);
            }
        }
    }
}
