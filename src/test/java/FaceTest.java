import java.io.IOException;
import java.lang.reflect.Constructor;
import java.lang.reflect.Field;
import java.lang.reflect.Method;
import java.lang.reflect.Modifier;
import java.nio.file.Files;
import java.nio.file.Path;
import java.util.TreeSet;
import java.util.regex.Pattern;

/** The class's face, and what can be told of LANGUAGE.md's rules by a glance at the classes and the text. */
public final class FaceTest {
    private static final String[] FACE = {
        "int lot(int, int, int) throws IllegalArgumentException",
        "int weigh(int, int) throws NoSuchElementException IllegalArgumentException",
        "int put(int, int, int) throws IndexOutOfBoundsException IllegalArgumentException NoSuchElementException",
        "int look(int) throws IndexOutOfBoundsException",
        "int card(int) throws IndexOutOfBoundsException",
        "int about(int, int) throws NoSuchElementException IllegalArgumentException",
        "int sit(int) throws IndexOutOfBoundsException",
        "int pour(int, int, int) throws IllegalStateException NoSuchElementException IllegalArgumentException"
            + " UnsupportedOperationException",
        "int count(int)",
        "int taster(int, int) throws IndexOutOfBoundsException IllegalArgumentException",
        "int hangs(int, int, int) throws IndexOutOfBoundsException NoSuchElementException",
        "int scale(int, int, int) throws IndexOutOfBoundsException NoSuchElementException",
        "int agree(int) throws IndexOutOfBoundsException",
        "int middle(int, int) throws NoSuchElementException IndexOutOfBoundsException",
        "int taste(int, int, int) throws NoSuchElementException IndexOutOfBoundsException IllegalArgumentException",
        "int stale(int, int) throws NoSuchElementException IllegalArgumentException",
        "int part(int, int) throws NoSuchElementException IllegalArgumentException",
        "int blend(int) throws IllegalStateException IllegalArgumentException",
        "void wish(int, int, int) throws IndexOutOfBoundsException IllegalArgumentException",
        "int least(int, int) throws IllegalArgumentException",
        "int share(int)",
        "int undo()",
        "int octet(int)"};

    private static String told(Method m) {
        StringBuilder text = new StringBuilder(m.getReturnType().getSimpleName()).append(' ').append(m.getName()).append('(');
        for (Class<?> type : m.getParameterTypes()) {
            text.append(text.charAt(text.length() - 1) == '(' ? "" : ", ").append(type.getSimpleName());
        }
        text.append(')');
        String between = " throws ";
        for (Class<?> type : m.getExceptionTypes()) {
            text.append(between).append(type.getSimpleName());
            between = " ";
        }
        return text.toString();
    }

    private static void theFaceIsTheDocuments() throws ReflectiveOperationException {
        TreeSet<String> due = new TreeSet<>(java.util.List.of(FACE));
        TreeSet<String> got = new TreeSet<>();
        TreeSet<String> names = new TreeSet<>();
        for (Method m : TeaCourt.class.getDeclaredMethods()) {
            if (Modifier.isPublic(m.getModifiers())) {
                got.add(told(m));
                names.add(m.getName());
            }
        }
        Check.same("the public methods", due, got);
        for (Method m : TeaCourt.class.getDeclaredMethods()) {
            boolean isPublic = Modifier.isPublic(m.getModifiers());
            Check.same(m + " is public or private", true, isPublic || Modifier.isPrivate(m.getModifiers()));
            Check.same(m + " bears no public name", true, isPublic || !names.contains(m.getName()));
        }
        for (Field f : TeaCourt.class.getDeclaredFields()) {
            boolean none = f.getName().equals("NONE");
            Check.same(f + " is private", !none, Modifier.isPrivate(f.getModifiers()));
            Check.same(f + " is final if static", true,
                    !Modifier.isStatic(f.getModifiers()) || Modifier.isFinal(f.getModifiers()));
        }
        Check.same("NONE", "public static final", Modifier.toString(TeaCourt.class.getDeclaredField("NONE").getModifiers()));
        Check.same("the class", "public final", Modifier.toString(TeaCourt.class.getModifiers()));
        Constructor<?>[] made = TeaCourt.class.getDeclaredConstructors();
        Check.due("constructors", 1, made.length);
        Check.due("their parameters", 0, made[0].getParameterCount());
        Check.same("the constructor is public", true, Modifier.isPublic(made[0].getModifiers()));
        Check.same("few classes inside", true, TeaCourt.class.getDeclaredClasses().length < 12);
        for (Class<?> inside : TeaCourt.class.getDeclaredClasses()) {
            Check.same(inside + " is private and static", true,
                    Modifier.isPrivate(inside.getModifiers()) && Modifier.isStatic(inside.getModifiers()));
            for (Method m : inside.getDeclaredMethods()) {
                Check.same(m + " bears no public name", false, names.contains(m.getName()));
            }
        }
    }

    private static void theTextKeepsToTheLanguage() throws IOException {
        String text = Files.readString(Path.of("src/main/java/TeaCourt.java"));
        String code = text.replaceAll("(?s)/\\*.*?\\*/", "").replaceAll("//.*", "");
        String[] forbidden = {"\\btry\\b", "\\bcatch\\b", "\\bfinally\\b", "->", "::", "\\bassert\\b", "\\bsynchronized\\b",
            "\\bprotected\\b", "\\bpackage\\b", "\\bSystem\\b", "\\bdouble\\b", "\\bfloat\\b", "\"", "Exact\\("};
        for (String word : forbidden) {
            Check.same("the text holds " + word, false, Pattern.compile(word).matcher(code).find());
        }
        Check.due("imports", 2, code.split("\\bimport\\b", -1).length);
        Check.same("the import", true, code.contains("import java.util.NoSuchElementException;"));
        for (String line : text.split("\n")) {
            Check.same("a line is not too long: " + line, true, line.length() <= 120);
        }
    }

    public static void main(String[] args) throws Exception {
        theFaceIsTheDocuments();
        theTextKeepsToTheLanguage();
        Check.end();
    }
}
