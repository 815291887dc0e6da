import java.io.ByteArrayOutputStream;
import java.io.PrintStream;
import java.lang.reflect.Method;
import java.lang.reflect.Modifier;
import java.net.URL;
import java.net.URLClassLoader;
import java.nio.file.Files;
import java.nio.file.Path;
import java.util.ArrayList;
import java.util.List;
import javax.tools.JavaCompiler;
import javax.tools.ToolProvider;

/** README.md: its example compiles and prints what stands behind its signs //, and it names each call. */
public final class ReadmeTest {
    private static final Checks C = new Checks("ReadmeTest");

    public static void main(String[] args) throws Exception {
        String page = Files.readString(Path.of("README.md"));
        namesEachCall(page);
        C.due("README tells of 512 calls", page.contains("**512 calls**") ? 1 : 0, 1);
        C.due("README tells how the tests are run", page.contains("\n.ci/run\n") ? 1 : 0, 1);
        example(page);
        C.end();
    }

    private static void namesEachCall(String page) {
        for (Method m : WhichWindow.class.getDeclaredMethods()) {
            if (Modifier.isPublic(m.getModifiers())) {
                C.due("README names " + m.getName(), page.contains("`" + m.getName() + "(") ? 1 : 0, 1);
            }
        }
    }

    private static void example(String page) throws Exception {
        int from = page.indexOf("```java\n");
        int to = page.indexOf("```\n", from + 8);
        C.due("README has an example", from >= 0 && to > from ? 1 : 0, 1);
        if (from < 0 || to < from) {
            return;
        }
        String text = page.substring(from + 8, to);
        List<String> due = answersTold(text);
        String[] got = printed(text).split("\n");
        C.due("so many answers", got.length, due.size());
        for (int i = 0; i < due.size() && i < got.length; i++) {
            C.due("answer " + i + " of the example, told is " + due.get(i) + ", got is " + got[i],
                    due.get(i).equals(got[i]) ? 1 : 0, 1);
        }
    }

    /** The number ahead of the colon, or alone, behind the sign // of each line that prints. */
    private static List<String> answersTold(String text) {
        List<String> due = new ArrayList<>();
        for (String line : text.split("\n")) {
            if (line.contains("System.out.println(")) {
                due.add(line.substring(line.indexOf("// ") + 3).split(":")[0]);
            }
        }
        return due;
    }

    private static String printed(String text) throws Exception {
        Path at = Files.createTempDirectory("example");
        Path file = at.resolve("Example.java");
        Files.writeString(file, text);
        JavaCompiler javac = ToolProvider.getSystemJavaCompiler();
        int code = javac.run(null, null, null, "--release", "17", "-Xlint:all", "-Werror", "-cp",
                System.getProperty("java.class.path"), "-d", at.toString(), file.toString());
        C.due("the example compiles", code, 0);
        String out = code == 0 ? run(at) : "";
        for (String name : new String[] {"Example.java", "Example.class", ""}) {
            Files.deleteIfExists(at.resolve(name));
        }
        return out;
    }

    private static String run(Path at) throws Exception {
        PrintStream was = System.out;
        ByteArrayOutputStream bytes = new ByteArrayOutputStream();
        try (URLClassLoader loader = new URLClassLoader(new URL[] {at.toUri().toURL()})) {
            Method main = loader.loadClass("Example").getMethod("main", String[].class);
            System.setOut(new PrintStream(bytes, true));
            main.invoke(null, (Object) new String[0]);
        } finally {
            System.setOut(was);
        }
        return bytes.toString().replace("\r", "");
    }
}
