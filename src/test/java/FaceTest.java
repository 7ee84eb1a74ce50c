import java.io.IOException;
import java.lang.reflect.Field;
import java.lang.reflect.Method;
import java.lang.reflect.Modifier;
import java.nio.file.Files;
import java.nio.file.Path;
import java.util.Arrays;
import java.util.Set;
import java.util.TreeSet;
import java.util.stream.Collectors;

/** The face of the class is the document's and nothing more, and its text keeps to the rules that can be seen in it. */
public final class FaceTest {
    private static final String[] FACE = {
        "int edition() throws UnsupportedOperationException",
        "int copy(int) throws IndexOutOfBoundsException, IllegalStateException, UnsupportedOperationException",
        "int type(int, int, boolean, boolean, int, boolean, int) throws IndexOutOfBoundsException, "
            + "IllegalStateException, IllegalArgumentException, UnsupportedOperationException",
        "int implement(int, int, int) throws IndexOutOfBoundsException, IllegalStateException, "
            + "IllegalArgumentException, UnsupportedOperationException",
        "int member(int, int, int, int, int, int, boolean, int) throws IndexOutOfBoundsException, "
            + "IllegalStateException, IllegalArgumentException, UnsupportedOperationException",
        "boolean drop(int, int, int, int, int) throws IndexOutOfBoundsException, IllegalStateException",
        "int seal(int) throws IndexOutOfBoundsException, IllegalStateException",
        "boolean above(int, int, int) throws IndexOutOfBoundsException, IllegalStateException",
        "int find(int, int, boolean, int, int) throws IndexOutOfBoundsException, IllegalStateException",
        "int select(int, int, int, int, int) throws IndexOutOfBoundsException, IllegalStateException",
        "int caller(int, int, int) throws IndexOutOfBoundsException, IllegalStateException, "
            + "IllegalArgumentException, UnsupportedOperationException",
        "int use(int, int, int, int, int, int) throws IndexOutOfBoundsException, IllegalArgumentException, "
            + "UnsupportedOperationException",
        "int foretell(int, int, int) throws IndexOutOfBoundsException, IllegalStateException",
        "int runs(int, int, int) throws IndexOutOfBoundsException, IllegalStateException",
        "int copied(int, int) throws IndexOutOfBoundsException",
        "int meets(int, int, int) throws IndexOutOfBoundsException, IllegalStateException",
        "int best(int, boolean) throws IndexOutOfBoundsException",
        "int differ(int, int) throws IndexOutOfBoundsException, IllegalStateException",
        "int difference(int, int, int, int) throws IndexOutOfBoundsException, IllegalStateException, "
            + "NoSuchElementException",
        "boolean compatible(int, int) throws IndexOutOfBoundsException, IllegalStateException",
        "int count(int)",
        "int look(int, int) throws IndexOutOfBoundsException",
        "int uses(int) throws IndexOutOfBoundsException",
    };

    private static final String[] NOT_IN_THE_TEXT = {
        "->", "::", "try", "catch", "finally", "synchronized", "assert", "Exact(", "System.", "equals(", "hashCode",
        "toString", "while", "Random", "Thread", "java.util.function", "java.util.stream",
    };

    public static void main(String[] args) throws IOException {
        Check check = new Check("FaceTest");
        theMethodsAreTheDocuments(check);
        nothingElseCanBeSeen(check);
        theTextKeepsToTheRules(check);
        check.finish();
    }

    private static void theMethodsAreTheDocuments(Check check) {
        Set<String> face = new TreeSet<>();
        for (Method m : LinkArchive.class.getDeclaredMethods()) {
            if (!Modifier.isPrivate(m.getModifiers())) {
                check.isTrue(m.getName() + " is public", m.getModifiers() == Modifier.PUBLIC);
                face.add(told(m));
            }
        }
        check.same("the face", new TreeSet<>(Arrays.asList(FACE)).toString(), face.toString());
    }

    private static String told(Method m) {
        String parameters = Arrays.stream(m.getParameterTypes()).map(Class::getSimpleName)
                .collect(Collectors.joining(", ", "(", ")"));
        String thrown = Arrays.stream(m.getExceptionTypes()).map(Class::getSimpleName)
                .collect(Collectors.joining(", "));
        return m.getReturnType().getSimpleName() + " " + m.getName() + parameters
                + (thrown.isEmpty() ? "" : " throws " + thrown);
    }

    private static void nothingElseCanBeSeen(Check check) {
        Class<?> c = LinkArchive.class;
        check.isTrue("the class is public and final", c.getModifiers() == (Modifier.PUBLIC | Modifier.FINAL));
        check.isTrue("one constructor, public", c.getDeclaredConstructors().length == 1
                && c.getConstructors().length == 1 && c.getConstructors()[0].getParameterCount() == 0);
        Set<String> publicNames = Arrays.stream(c.getMethods()).map(Method::getName).collect(Collectors.toSet());
        for (Class<?> inside : c.getDeclaredClasses()) {
            check.isTrue(inside + " is static and not public", Modifier.isStatic(inside.getModifiers())
                    && !Modifier.isPublic(inside.getModifiers()) && !Modifier.isProtected(inside.getModifiers()));
            staticFieldsAreFinal(check, inside);
            for (Method m : inside.getDeclaredMethods()) {
                check.isTrue("no method inside is named " + m.getName(), !publicNames.contains(m.getName()));
            }
        }
        staticFieldsAreFinal(check, c);
        for (Field f : c.getDeclaredFields()) {
            check.isTrue(f.getName() + " is private, or NONE",
                    Modifier.isPrivate(f.getModifiers()) != f.getName().equals("NONE"));
        }
        for (Method m : c.getDeclaredMethods()) {
            check.isTrue(m.getName() + " is private, or of the face",
                    Modifier.isPublic(m.getModifiers()) == publicNames.contains(m.getName()));
        }
    }

    private static void staticFieldsAreFinal(Check check, Class<?> c) {
        for (Field f : c.getDeclaredFields()) {
            check.isTrue(f + " is final if it is static",
                    !Modifier.isStatic(f.getModifiers()) || Modifier.isFinal(f.getModifiers()));
        }
    }

    private static void theTextKeepsToTheRules(Check check) throws IOException {
        String text = Files.readString(Path.of("src/main/java/LinkArchive.java"));
        String code = text.replaceAll("/\\*\\*[^\\n]*\\*/", "").replaceAll("//[^\\n]*", "");
        for (String word : NOT_IN_THE_TEXT) {
            boolean isWord = word.matches("\\w+");
            boolean there = isWord ? code.matches("(?s).*\\b" + word + "\\b.*") : code.contains(word);
            check.isTrue("the text has no " + word, !there);
        }
        check.isTrue("the signs are 1 to 127", text.chars().allMatch(sign -> sign >= 1 && sign <= 127));
        Set<String> imports = text.lines().filter(line -> line.startsWith("import "))
                .collect(Collectors.toCollection(TreeSet::new));
        check.same("the imports", "[import java.util.Arrays;, import java.util.NoSuchElementException;]",
                imports.toString());
        check.isTrue("no package line", text.lines().noneMatch(line -> line.startsWith("package ")));
    }
}
