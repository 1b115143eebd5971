import java.io.IOException;
import java.lang.reflect.Constructor;
import java.lang.reflect.Field;
import java.lang.reflect.Method;
import java.lang.reflect.Modifier;
import java.nio.file.Files;
import java.nio.file.Path;
import java.util.ArrayList;
import java.util.Arrays;
import java.util.List;
import java.util.Set;
import java.util.TreeSet;
import java.util.regex.Matcher;
import java.util.regex.Pattern;
import java.util.stream.Collectors;

/** The public face, and the rules of LANGUAGE.md that a look at the source can tell. */
public final class FaceTest {
    private static final String[] FACE = {
        "int show(int,int) throws IndexOutOfBoundsException,IllegalArgumentException",
        "int level(int,int) throws IndexOutOfBoundsException,IllegalArgumentException",
        "int burn(int,int,boolean) throws IndexOutOfBoundsException",
        "int ambient(int) throws IllegalArgumentException",
        "int set(int,int) throws IndexOutOfBoundsException,IllegalArgumentException",
        "int number(int,int,int) throws IndexOutOfBoundsException,IllegalArgumentException",
        "int run(int) throws IllegalArgumentException,IllegalStateException",
        "int append(int) throws IllegalArgumentException,IllegalStateException",
        "int clearBuffer()",
        "int firstError()",
        "int read() throws IllegalArgumentException",
        "int undo() throws IllegalStateException",
        "int digit(int,int) throws IndexOutOfBoundsException,IllegalArgumentException",
        "int wear(int,int) throws IndexOutOfBoundsException",
        "int slot(int,boolean) throws IllegalArgumentException",
        "int count(int) throws IllegalArgumentException",
        "int setting(int) throws IndexOutOfBoundsException",
        "int ifLevel(int,int,int) throws IndexOutOfBoundsException,IllegalArgumentException",
        "int leastLevel(int) throws IndexOutOfBoundsException",
        "int alikeSigns(int) throws IndexOutOfBoundsException",
        "int numberShown()",
        "double evenness()",
        "long digest()",
    };
    private static final String[] RULED_OUT = {
        "->", "::", "catch", "finally", "synchronized", "assert", "instanceof", "Exact(", "package ",
        "static {", "Double.", "Integer.MAX", "Integer.MIN", "Long.MAX", "Long.MIN", "protected ",
        "System.out", "System.nano", "System.current", "Random", "\" +", "+ \"",
    };
    private static final Checks CHECKS = new Checks("FaceTest");

    public static void main(String[] args) throws IOException {
        members();
        String source = Files.readString(Path.of("src/main/java/TurnDigits.java"));
        source(source);
        names(source);
        thrown(source);
        sizes();
        lengths(source);
        CHECKS.end();
    }

    private static void members() {
        Class<?> c = TurnDigits.class;
        CHECKS.due("the class's modifiers", c.getModifiers(), Modifier.PUBLIC | Modifier.FINAL);
        Set<String> got = new TreeSet<>();
        for (Method m : c.getDeclaredMethods()) {
            if (Modifier.isPublic(m.getModifiers())) {
                got.add(signature(m));
            } else {
                CHECKS.due("private: " + m.getName(), m.getModifiers() & Modifier.PRIVATE, Modifier.PRIVATE);
            }
        }
        CHECKS.dueText("the methods", got.toString(), new TreeSet<>(Arrays.asList(FACE)).toString());
        for (Field f : c.getDeclaredFields()) {
            boolean isNone = f.getName().equals("NONE");
            int access = f.getModifiers() & (Modifier.PUBLIC | Modifier.PROTECTED | Modifier.PRIVATE);
            CHECKS.due("access of " + f.getName(), access, isNone ? Modifier.PUBLIC : Modifier.PRIVATE);
            CHECKS.due("final: " + f.getName(), f.getModifiers() & Modifier.FINAL, Modifier.FINAL);
        }
        for (Constructor<?> k : c.getDeclaredConstructors()) {
            CHECKS.due("constructor", k.getModifiers() + 100 * k.getParameterCount(), Modifier.PUBLIC);
        }
        for (Class<?> inside : c.getDeclaredClasses()) {
            int hidden = inside.getModifiers() & (Modifier.PUBLIC | Modifier.PROTECTED);
            CHECKS.due("access of " + inside.getSimpleName(), hidden, 0);
        }
        CHECKS.due("NONE", TurnDigits.NONE, -1);
    }

    private static String signature(Method m) {
        String thrown = names(m.getExceptionTypes());
        return m.getReturnType().getSimpleName() + " " + m.getName() + "(" + names(m.getParameterTypes()) + ")"
                + (thrown.isEmpty() ? "" : " throws " + thrown);
    }

    private static String names(Class<?>[] classes) {
        return Arrays.stream(classes).map(Class::getSimpleName).collect(Collectors.joining(","));
    }

    private static void source(String source) {
        for (String part : RULED_OUT) {
            CHECKS.due("places of " + part, source.indexOf(part), -1);
        }
        Matcher imports = Pattern.compile("import ([^;]*);").matcher(source);
        while (imports.find()) {
            CHECKS.dueText("an import", imports.group(1), "java.util.Arrays");
        }
    }

    /** Rule 1: no method that is not public bears the name of a public one. */
    private static void names(String source) {
        Set<String> face = new TreeSet<>();
        for (String line : FACE) {
            face.add(line.replaceAll("^\\w+ (\\w+)\\(.*$", "$1"));
        }
        Matcher methods = Pattern.compile("(?m)^ +((?:\\w+ )*)\\w+(?:\\[\\])? (\\w+)\\([^;]*?\\{$").matcher(source);
        int found = 0;
        while (methods.find()) {
            if (!methods.group(1).contains("public") && !methods.group(1).contains("return")) {
                found++;
                CHECKS.due("a hidden " + methods.group(2), face.contains(methods.group(2)) ? 1 : 0, 0);
            }
        }
        CHECKS.due("hidden methods found", found > 20 ? 1 : 0, 1);
    }

    /** Rule 6: what is thrown, and that it tells a written text or none. */
    private static void thrown(String source) {
        Matcher throwing = Pattern.compile("\\bthrow\\b.*").matcher(source);
        String fine = "throw new (IndexOutOfBounds|IllegalArgument|IllegalState)Exception\\((\"[^\"]*\")?\\);";
        while (throwing.find()) {
            CHECKS.due(throwing.group(), throwing.group().matches(fine) ? 1 : 0, 1);
        }
    }

    /** Rules 5 and 11: how many classes, fields and parameters there are, and no static state. */
    private static void sizes() {
        List<Class<?>> classes = new ArrayList<>(Arrays.asList(TurnDigits.class.getDeclaredClasses()));
        classes.add(TurnDigits.class);
        CHECKS.due("too many classes", classes.size() > 12 ? 1 : 0, 0);
        for (Class<?> c : classes) {
            int fields = 0;
            for (Field f : c.getDeclaredFields()) {
                boolean isStatic = Modifier.isStatic(f.getModifiers());
                fields += isStatic ? 0 : 1;
                CHECKS.due("static state: " + f, isStatic && !Modifier.isFinal(f.getModifiers()) ? 1 : 0, 0);
            }
            CHECKS.due("too many fields of " + c.getSimpleName(), fields > 20 ? 1 : 0, 0);
            for (Method m : c.getDeclaredMethods()) {
                CHECKS.due("too many parameters of " + m, m.getParameterCount() > 7 ? 1 : 0, 0);
            }
        }
    }

    /** Rule 11: a method ends with the brace that stands just below its first word. */
    private static void lengths(String source) {
        String head = "^( {4}| {8})(?=\\w)(?!return|if|for|while|switch)[^;{}]*\\([^;{}]*\\{\\n";
        Matcher methods = Pattern.compile("(?ms)" + head + "(.*?)^\\1\\}$").matcher(source);
        int found = 0;
        while (methods.find()) {
            found++;
            long lines = methods.group(2).lines().count();
            CHECKS.due("lines of a method too many: " + methods.group(2), lines > 60 ? 1 : 0, 0);
        }
        CHECKS.due("methods with a length found", found > 50 ? 1 : 0, 1);
    }
}
