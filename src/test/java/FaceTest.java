import java.io.IOException;
import java.lang.reflect.Field;
import java.lang.reflect.Method;
import java.lang.reflect.Modifier;
import java.nio.charset.StandardCharsets;
import java.nio.file.Files;
import java.nio.file.Path;
import java.util.Arrays;
import java.util.TreeSet;
import java.util.regex.Matcher;
import java.util.regex.Pattern;
import java.util.stream.Collectors;

/** The face of the class, and those rules of LANGUAGE.md that can be read off its text. */
public final class FaceTest {
    private static final String[] FACE = {
        "int addGrade(int) throws IllegalArgumentException, IllegalStateException",
        "int setWidth(int) throws IllegalArgumentException, IllegalStateException",
        "int change(int) throws IndexOutOfBoundsException, IllegalArgumentException, IllegalStateException",
        "int grade() throws NoSuchElementException",
        "int changing()",
        "int next() throws NoSuchElementException",
        "int mass(int) throws IndexOutOfBoundsException",
        "int order(int, int, int) throws IndexOutOfBoundsException, IllegalArgumentException,"
            + " UnsupportedOperationException, IllegalStateException",
        "int cancel(int) throws IndexOutOfBoundsException, IllegalStateException",
        "int cut(int) throws IndexOutOfBoundsException",
        "int lacks(int) throws IndexOutOfBoundsException",
        "int trim(int) throws IndexOutOfBoundsException",
        "int trimByTable(int) throws IndexOutOfBoundsException",
        "int inCut(int) throws IndexOutOfBoundsException",
        "int leastHours(int) throws IndexOutOfBoundsException",
        "int setShare(int) throws IllegalArgumentException",
        "int setContract(int, int, int) throws IllegalArgumentException",
        "int pass(int) throws IllegalArgumentException, IllegalStateException",
        "int hours()",
        "int broke()",
        "int brokeByHours()",
        "long fresh()",
        "long paper()",
        "long lost()",
        "char made(int) throws IndexOutOfBoundsException",
        "long steamCost()",
        "float paperShare() throws ArithmeticException",
        "double meanTrim() throws ArithmeticException",
    };

    private static final String[] FORBIDDEN = {
        "->", "::", "\\bcatch\\b", "\\bfinally\\b", "\\bsynchronized\\b", "\\bassert\\b", "\\bstatic\\s*\\{",
        "\\bnew\\s+\\w+\\[[^\\]]*\\]\\[", "\\bSystem\\.(?!arraycopy)", "\\bThread\\b", "Exact\\(", "\"\\s*\\+", "\\+\\s*\"",
    };

    public static void main(String[] args) throws IOException {
        members();
        nestedClasses();
        text();
        Check.end("FaceTest");
    }

    private static void members() {
        Class<?> face = PaperMachine.class;
        Check.same("modifiers of the class", face.getModifiers(), Modifier.PUBLIC | Modifier.FINAL);
        Check.same("constructors", face.getDeclaredConstructors().length, 1);
        Check.same("modifiers of the constructor", face.getDeclaredConstructors()[0].getModifiers(), Modifier.PUBLIC);
        TreeSet<String> found = new TreeSet<>();
        TreeSet<String> open = new TreeSet<>();
        for (Method method : face.getDeclaredMethods()) {
            if (!Modifier.isPrivate(method.getModifiers())) {
                found.add(signature(method));
                open.add(method.getName());
            }
        }
        Check.same("the public methods", found.toString(), new TreeSet<>(Arrays.asList(FACE)).toString());
        for (Method method : face.getDeclaredMethods()) {
            boolean hides = Modifier.isPrivate(method.getModifiers()) && open.contains(method.getName());
            Check.same("private " + method.getName() + " with a public name", hides ? 1 : 0, 0);
        }
        fields(face);
    }

    private static void nestedClasses() {
        for (Class<?> inside : PaperMachine.class.getDeclaredClasses()) {
            Check.same(inside + " is static", Modifier.isStatic(inside.getModifiers()) ? 1 : 0, 1);
            Check.same(inside + " is open", inside.getModifiers() & (Modifier.PUBLIC | Modifier.PROTECTED), 0);
            fields(inside);
        }
    }

    private static void fields(Class<?> owner) {
        int own = 0;
        for (Field field : owner.getDeclaredFields()) {
            boolean fixed = Modifier.isStatic(field.getModifiers());
            own += fixed ? 0 : 1;
            Check.same(field + " is final if static", fixed && !Modifier.isFinal(field.getModifiers()) ? 1 : 0, 0);
            boolean hidden = owner != PaperMachine.class || Modifier.isPrivate(field.getModifiers());
            Check.same(field + " is private", hidden ? 1 : 0, 1);
        }
        Check.same("fields of " + owner + " beyond 20", Math.max(0, own - 20), 0);
    }

    private static String signature(Method method) {
        String thrown = Arrays.stream(method.getExceptionTypes()).map(Class::getSimpleName)
                .collect(Collectors.joining(", "));
        String taken = Arrays.stream(method.getParameterTypes()).map(Class::getSimpleName)
                .collect(Collectors.joining(", "));
        return method.getReturnType().getSimpleName() + " " + method.getName() + "(" + taken + ")"
                + (thrown.isEmpty() ? "" : " throws " + thrown);
    }

    private static void text() throws IOException {
        byte[] bytes = Files.readAllBytes(Path.of("src/main/java/PaperMachine.java"));
        for (byte b : bytes) {
            if (b < 1) {
                Check.same("a sign of the text", b, 1);
            }
        }
        String whole = new String(bytes, StandardCharsets.US_ASCII);
        String code = whole.replaceAll("(?s)/\\*.*?\\*/", "").replaceAll("//[^\n]*", "");
        for (String pattern : FORBIDDEN) {
            Matcher matcher = Pattern.compile(pattern).matcher(code);
            Check.same("the text has " + pattern, matcher.find() ? 1 : 0, 0);
        }
        TreeSet<String> imports = new TreeSet<>();
        Matcher matcher = Pattern.compile("import ([^;]+);").matcher(code);
        while (matcher.find()) {
            imports.add(matcher.group(1));
        }
        Check.same("the imports", imports.toString(), "[java.util.Arrays, java.util.NoSuchElementException]");
    }
}
