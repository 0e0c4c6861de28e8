import java.io.IOException;
import java.lang.reflect.Field;
import java.lang.reflect.Method;
import java.lang.reflect.Modifier;
import java.nio.charset.StandardCharsets;
import java.nio.file.Files;
import java.nio.file.Path;
import java.util.HashSet;
import java.util.Set;
import java.util.regex.Matcher;
import java.util.regex.Pattern;

/** The rules of LANGUAGE.md as far as a look at the text and at the classes can tell. */
public final class RulesTest {
    private static final Check check = new Check("RulesTest");

    public static void main(String[] args) throws IOException {
        Path file = Path.of("src/main/java/PaidBySigns.java");
        String source = Files.readString(file, StandardCharsets.UTF_8);
        String bare = source.replaceAll("(?s)/\\*.*?\\*/", "").replaceAll("//[^\n]*", "")
            .replaceAll("\"[^\"\n]*\"", "\"\"");
        words(bare);
        library(bare);
        methodsAreShort(bare);
        classes(bare);
        check.finish();
    }

    private static void words(String bare) {
        String[] barred = {"\\bthrow\\b", "\\btry\\b", "\\bcatch\\b", "\\bsynchronized\\b", "\\bassert\\b", "->", "::",
            "Exact\\b", "\\bprotected\\b", "\\bpackage\\b", "\\bthrows\\b", "\\bvolatile\\b", "\\bnative\\b",
            "\\bdouble\\b", "\\bfloat\\b", "\\bvar\\b", "\\bObject\\b", "\\bThread\\b", "\\bRandom\\b",
            "\\bequals\\b", "\\bhashCode\\b", "\\btoString\\b", "\\bSystem\\.(?!arraycopy\\b)", "\\bnull\\b",
            "\"\\s*\\+", "\\+\\s*\""};
        for (String word : barred) {
            check.due("barred: " + word, Pattern.compile(word).matcher(bare).find() ? 1 : 0, 0);
        }
        Matcher imports = Pattern.compile("import ([^;]+);").matcher(bare);
        while (imports.find()) {
            check.due("import " + imports.group(1), imports.group(1).equals("java.util.Arrays") ? 1 : 0, 1);
        }
        for (char sign : bare.toCharArray()) {
            if (sign > 126) {
                check.due("a sign beyond 126", sign, 0);
            }
        }
        // What is made is made with the object: rows are fields, none is made by a call.
        for (String line : bare.split("\n")) {
            if (line.contains("new ")) {
                boolean isField = line.matches("\\s+(private )?(final )?[A-Za-z]+(\\[\\])* [a-zA-Z]+ = new .*;");
                check.due("made by a call: " + line.trim(), isField ? 1 : 0, 1);
            }
        }
    }

    /** Rule 4: of the library's classes only functions, and only those that the rules tell. */
    private static void library(String bare) {
        Matcher uses = Pattern.compile("\\b(Integer|Long|Math|Arrays|System|String|List|Character|Byte|Short|Boolean)"
            + "\\s*\\.\\s*(\\w+)(\\s*\\()?").matcher(bare);
        Set<String> told = Set.of("Integer.compare", "Math.abs", "Math.max", "Math.min", "Arrays.fill", "System.arraycopy");
        while (uses.find()) {
            String use = uses.group(1) + "." + uses.group(2);
            check.due("of the library: " + use, told.contains(use) && uses.group(3) != null ? 1 : 0, 1);
        }
    }

    private static void methodsAreShort(String bare) {
        String[] lines = bare.split("\n");
        int start = -1;
        String indent = "";
        for (int i = 0; i < lines.length; i++) {
            if (lines[i].matches("( {4}| {8})[a-zA-Z].*\\(.*\\{") && !lines[i].contains(" class ")) {
                start = i;
                indent = lines[i].replaceAll("\\S.*", "");
                check.due("parameters of " + lines[i].trim(), lines[i].split(",").length <= 7 ? 1 : 0, 1);
            } else if (start >= 0 && lines[i].equals(indent + "}")) {
                check.due("lines of " + lines[start].trim(), i - start + 1 <= 60 ? 1 : 0, 1);
                start = -1;
            }
        }
    }

    private static void classes(String bare) {
        Class<?>[] inside = PaidBySigns.class.getDeclaredClasses();
        check.due("classes", inside.length + 1 <= 12 ? 1 : 0, 1);
        fields(PaidBySigns.class);
        Set<String> open = new HashSet<>();
        for (Method method : PaidBySigns.class.getDeclaredMethods()) {
            if (Modifier.isPublic(method.getModifiers())) {
                open.add(method.getName());
            }
        }
        closedNames(PaidBySigns.class, open);
        for (Class<?> one : inside) {
            check.due(one + " is static", Modifier.isStatic(one.getModifiers()) ? 1 : 0, 1);
            check.due(one + " is not open", one.getModifiers() & (Modifier.PUBLIC | Modifier.PROTECTED), 0);
            fields(one);
            closedNames(one, open);
        }
        check.due("one file, one outer class", bare.split("(?m)^(public |final |abstract )*class ").length, 2);
    }

    private static void closedNames(Class<?> one, Set<String> open) {
        for (Method method : one.getDeclaredMethods()) {
            if (!Modifier.isPublic(method.getModifiers())) {
                check.due(one + "." + method.getName(), open.contains(method.getName()) ? 1 : 0, 0);
            }
        }
    }

    private static void fields(Class<?> one) {
        int count = 0;
        for (Field field : one.getDeclaredFields()) {
            if (Modifier.isStatic(field.getModifiers())) {
                check.due("final: " + field, Modifier.isFinal(field.getModifiers()) ? 1 : 0, 1);
            } else {
                count++;
            }
        }
        check.due("fields of " + one, count <= 20 ? 1 : 0, 1);
    }
}
