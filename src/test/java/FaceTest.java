import java.io.IOException;
import java.lang.reflect.Constructor;
import java.lang.reflect.Field;
import java.lang.reflect.Method;
import java.lang.reflect.Modifier;
import java.nio.file.Files;
import java.nio.file.Path;
import java.util.Set;
import java.util.TreeSet;

/** The face is the document's and no more; the source keeps off what LANGUAGE.md rules out. */
public final class FaceTest {
    private static final String FACE = "mend 3 of 2 habits 3 feed 1 law 0 on 2 letter 2 all 2 round 1 dark 0 comes 1 set 3"
            + " curtain 1 changesIt 2 movedBy 2 canSay 2 together 2 judge 1 habit 3 tries 3 first 2 game 2 drawn 3"
            + " lamp 1 pass 1 cut 0 led 1 image 0 back 0 undo 0 redo 0 body 1 act 3 trace 1 keep 2 row 3 put 3"
            + " element 2 shift 5 taken 2 count 1";

    public static void main(String[] args) throws IOException {
        Checks c = new Checks("FaceTest");
        Set<String> wanted = new TreeSet<>();
        String[] words = FACE.split(" ");
        for (int i = 0; i < words.length; i += 2) {
            wanted.add(words[i] + " " + words[i + 1]);
        }
        Set<String> shown = new TreeSet<>();
        Set<String> names = new TreeSet<>();
        for (Method m : WhichWindow.class.getDeclaredMethods()) {
            if (Modifier.isPublic(m.getModifiers())) {
                shown.add(m.getName() + " " + m.getParameterCount());
                names.add(m.getName());
            } else if (!m.isSynthetic()) {
                c.due("private: " + m, Modifier.isPrivate(m.getModifiers()) ? 1 : 0, 1);
            }
        }
        c.due("the face " + shown, shown.equals(wanted) ? 1 : 0, 1);
        c.due("element alone answers a long", answersLong() ? 1 : 0, 1);
        for (Method m : WhichWindow.class.getDeclaredMethods()) {
            if (!Modifier.isPublic(m.getModifiers())) {
                c.due("no private " + m.getName(), names.contains(m.getName()) ? 1 : 0, 0);
            }
        }
        int constants = 0;
        for (Field f : WhichWindow.class.getDeclaredFields()) {
            boolean isPublic = Modifier.isPublic(f.getModifiers());
            c.due("private or public: " + f, isPublic || Modifier.isPrivate(f.getModifiers()) ? 1 : 0, 1);
            constants += isPublic ? 1 : 0;
        }
        c.due("public constants", constants, 5);
        Constructor<?>[] makers = WhichWindow.class.getConstructors();
        c.due("constructors", makers.length, 1);
        c.due("final", Modifier.isFinal(WhichWindow.class.getModifiers()) ? 1 : 0, 1);
        c.due("BAD", WhichWindow.BAD, -1);
        c.due("NOT", WhichWindow.NOT, -2);
        c.due("FULL", WhichWindow.FULL, -3);
        c.due("STATE", WhichWindow.STATE, -5);
        c.due("VOID", WhichWindow.VOID, -2000000000);
        source(c);
        c.end();
    }

    private static boolean answersLong() {
        for (Method m : WhichWindow.class.getDeclaredMethods()) {
            if (Modifier.isPublic(m.getModifiers())) {
                boolean isElement = m.getName().equals("element");
                if (m.getReturnType() != (isElement ? long.class : int.class)) {
                    return false;
                }
            }
        }
        return true;
    }

    private static void source(Checks c) throws IOException {
        String text = Files.readString(Path.of("src/main/java/WhichWindow.java"));
        String code = text.replaceAll("(?s)/\\*.*?\\*/", " ").replaceAll("//[^\n]*", " ");
        for (String no : new String[] {"::", "->", "\\bpackage\\b", "\\bfinally\\b", "\\bsynchronized\\b", "\\bassert\\b",
            "\\bhashCode\\b", "Exact\\b", "\\bSystem\\.(?!arraycopy)", "\\bprotected\\b", "static\\s*\\{",
            "\"[^\"]*\"\\s*\\+", "catch\\s*\\([^)]*(Array|NullPointer|ClassCast|Negative|Throwable|\\bException)"}) {
            c.due("no " + no, java.util.regex.Pattern.compile(no).matcher(code).find() ? 1 : 0, 0);
        }
        int classes = code.split("\\bclass\\b").length - 1;
        c.due("some twelve classes: " + classes, classes <= 12 ? 1 : 0, 1);
        c.due("one file", Files.list(Path.of("src/main/java")).count(), 1);
    }
}
