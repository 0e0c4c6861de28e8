import java.io.ByteArrayOutputStream;
import java.io.PrintStream;
import java.lang.reflect.Method;
import java.lang.reflect.Modifier;
import java.net.URL;
import java.net.URLClassLoader;
import java.nio.charset.StandardCharsets;
import java.nio.file.Files;
import java.nio.file.Path;
import javax.tools.ToolProvider;

/** The program in README.md prints what README.md tells, and no call of the face is left out there. */
public final class ReadmeTest {
    private static final Check check = new Check("ReadmeTest");

    public static void main(String[] args) throws Exception {
        String readme = Files.readString(Path.of("README.md"), StandardCharsets.UTF_8);
        String got = printedBy(block(readme, "java"));
        check.due("the program prints:\n" + got + "in place of what is told", got.equals(block(readme, "text")) ? 1 : 0, 1);
        String table = readme.substring(readme.indexOf("| for |"), readme.lastIndexOf(" |\n"));
        for (Method method : PaidBySigns.class.getDeclaredMethods()) {
            if (Modifier.isPublic(method.getModifiers())) {
                String name = method.getName();
                check.due(name + " stands in the table", table.contains("`" + name + "`") ? 1 : 0, 1);
            }
        }
        check.finish();
    }

    private static String block(String readme, String kind) {
        String head = "```" + kind + "\n";
        int from = readme.indexOf(head) + head.length();
        return readme.substring(from, readme.indexOf("```\n", from));
    }

    private static String printedBy(String program) throws Exception {
        Path room = Files.createTempDirectory("readme");
        Path file = room.resolve("Example.java");
        Path made = room.resolve("Example.class");
        Files.writeString(file, program);
        PrintStream screen = System.out;
        ByteArrayOutputStream printed = new ByteArrayOutputStream();
        URL[] place = {room.toUri().toURL()};
        try (URLClassLoader loader = new URLClassLoader(place, ReadmeTest.class.getClassLoader())) {
            String[] asked = {"-cp", System.getProperty("java.class.path"), "-d", room.toString(), file.toString()};
            check.due("javac", ToolProvider.getSystemJavaCompiler().run(null, null, null, asked), 0);
            System.setOut(new PrintStream(printed, true, StandardCharsets.UTF_8));
            loader.loadClass("Example").getMethod("main", String[].class).invoke(null, (Object) new String[0]);
        } finally {
            System.setOut(screen);
            Files.deleteIfExists(file);
            Files.deleteIfExists(made);
            Files.deleteIfExists(room);
        }
        return printed.toString(StandardCharsets.UTF_8);
    }
}
