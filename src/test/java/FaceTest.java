import java.io.IOException;
import java.lang.reflect.Constructor;
import java.lang.reflect.Field;
import java.lang.reflect.Method;
import java.lang.reflect.Modifier;
import java.nio.file.Files;
import java.nio.file.Path;
import java.util.Arrays;
import java.util.Set;
import java.util.TreeSet;
import java.util.regex.Matcher;
import java.util.regex.Pattern;

/** The face of the document and no other, and those rules of the language that a look can test. */
final class FaceTest {
    private static final String[] FACE = {
        "int add(byte) UnsupportedOperationException",
        "int poke(long,int) IndexOutOfBoundsException",
        "int place(long,long) IllegalArgumentException,UnsupportedOperationException",
        "int sign(int,boolean,long) IllegalArgumentException,IllegalStateException,UnsupportedOperationException",
        "int holds(int) NoSuchElementException",
        "long span(int,int,int) NoSuchElementException,IndexOutOfBoundsException",
        "void tell(int,int,long,long) NoSuchElementException,IndexOutOfBoundsException",
        "int chain(int,long,long) NoSuchElementException,IllegalArgumentException,UnsupportedOperationException",
        "int change(int,int) IllegalArgumentException,UnsupportedOperationException",
        "int allow(int,int) NoSuchElementException",
        "int lock(int,int) NoSuchElementException,IllegalArgumentException",
        "int certify(int,int) NoSuchElementException,IllegalArgumentException",
        "int since(int,int,int) NoSuchElementException,IndexOutOfBoundsException",
        "byte digest(int,int) NoSuchElementException,ArrayIndexOutOfBoundsException",
        "long behind(int) NoSuchElementException",
        "int stamp(long) IllegalArgumentException,UnsupportedOperationException",
        "long stamped(int,int) IndexOutOfBoundsException",
    };
    private static final String[] NEVER = {
        "->", "::", "\\btry\\b", "\\bcatch\\b", "\\bfinally\\b", "\\bsynchronized\\b", "\\bassert\\b",
        "\\bstatic\\s*\\{", "\\bpackage\\b", "Exact\\(", "\\bSystem\\.(?!arraycopy)",
    };

    /** Rule 6's classes, and the one that promise 15 names besides. */
    private static final String THROWN = "IllegalStateException|IllegalArgumentException|IndexOutOfBoundsException"
            + "|UnsupportedOperationException|NoSuchElementException|ArrayIndexOutOfBoundsException";
    private static final Set<String> STATIC_TYPES = Set.of(
            "int", "long", "boolean", "char", "String", "int[]", "long[]", "char[]", "byte[]");
    private static final Set<String> LIBRARY = Set.of("Math", "String");

    public static void main(String[] args) throws IOException {
        Class<?> c = SignatureSpans.class;
        Check.due("modifiers of the class", c.getModifiers(), Modifier.PUBLIC | Modifier.FINAL);
        Set<String> face = new TreeSet<>(Arrays.asList(FACE));
        Set<String> names = new TreeSet<>();
        Set<String> seen = new TreeSet<>();
        for (Method m : c.getDeclaredMethods()) {
            if (Modifier.isPrivate(m.getModifiers())) {
                continue;
            }
            Check.due("modifiers of " + m, m.getModifiers(), Modifier.PUBLIC);
            seen.add(told(m));
            names.add(m.getName());
        }
        Check.isSo("the face is " + face + ", seen " + seen, face.equals(seen));
        for (Method m : c.getDeclaredMethods()) {
            Check.isSo(m + " bears its own name", !Modifier.isPrivate(m.getModifiers()) || !names.contains(m.getName()));
        }
        Check.due("constructors", c.getDeclaredConstructors().length, 1);
        for (Constructor<?> k : c.getDeclaredConstructors()) {
            Check.due("modifiers of " + k, k.getModifiers(), Modifier.PUBLIC);
            Check.due("parameters of " + k, k.getParameterCount(), 0);
        }
        fieldsOf(c, true);
        parametersOf(c);
        Check.isSo("the file has some twelve classes at most", c.getDeclaredClasses().length < 12);
        for (Class<?> inside : c.getDeclaredClasses()) {
            Check.isSo(inside + " is static", Modifier.isStatic(inside.getModifiers()));
            Check.isSo(inside + " is not public", (inside.getModifiers() & (Modifier.PUBLIC | Modifier.PROTECTED)) == 0);
            fieldsOf(inside, false);
            parametersOf(inside);
        }
        if (args.length > 0) {
            textOf(Files.readString(Path.of(args[0])));
        }
        Check.end();
    }

    private static String told(Method m) {
        StringBuilder text = new StringBuilder(m.getReturnType() + " " + m.getName() + "(");
        text.append(joined(m.getParameterTypes())).append(") ").append(joined(m.getExceptionTypes()));
        return text.toString();
    }

    private static String joined(Class<?>[] types) {
        return String.join(",", Arrays.stream(types).map(Class::getSimpleName).toList());
    }

    private static void fieldsOf(Class<?> c, boolean mustBePrivate) {
        int own = 0;
        for (Field f : c.getDeclaredFields()) {
            Check.isSo(f + " is private", !mustBePrivate || Modifier.isPrivate(f.getModifiers()));
            if (Modifier.isStatic(f.getModifiers())) {
                Check.isSo(f + " is final", Modifier.isFinal(f.getModifiers()));
                Check.isSo(f + " is of a static field's type", STATIC_TYPES.contains(f.getType().getSimpleName()));
            } else {
                own++;
            }
        }
        Check.isSo(c + " has some twenty fields at most", own <= 20);
    }

    private static void parametersOf(Class<?> c) {
        for (Method m : c.getDeclaredMethods()) {
            Check.isSo(m + " takes seven parameters at most", m.getParameterCount() <= 7);
        }
        for (Constructor<?> k : c.getDeclaredConstructors()) {
            Check.isSo(k + " takes seven parameters at most", k.getParameterCount() <= 7);
        }
    }

    private static void textOf(String text) {
        String code = text.replaceAll("(?s)/\\*.*?\\*/", "").replaceAll("//.*", "").replaceAll("\"[^\"]*\"", "\"\"");
        for (String never : NEVER) {
            Check.isSo("no " + never, !Pattern.compile(never).matcher(code).find());
        }
        Matcher imports = Pattern.compile("import\\s+([^;]+);").matcher(code);
        while (imports.find()) {
            Check.isSo("import " + imports.group(1), imports.group(1).equals("java.util.NoSuchElementException"));
        }
        namesOf(code);
        throwsOf(text);
        methodsAreShort(text);
        for (int i = 0; i < text.length(); i++) {
            if (text.charAt(i) > 127) {
                Check.due("a sign of the text at " + i, text.charAt(i), 127);
            }
        }
    }

    /** No class is named but the file's own, the exceptions, and those of the library's that the class uses. */
    private static void namesOf(String code) {
        Set<String> own = new TreeSet<>(LIBRARY);
        own.add(SignatureSpans.class.getSimpleName());
        for (Class<?> inside : SignatureSpans.class.getDeclaredClasses()) {
            own.add(inside.getSimpleName());
        }
        Matcher names = Pattern.compile("\\b[A-Z][a-z]\\w*").matcher(code);
        while (names.find()) {
            String name = names.group();
            Check.isSo("the name " + name, own.contains(name) || name.matches(THROWN));
        }
    }

    /** Each throw has a class of the list and a written text; the text has no number, which tells it from the machine's. */
    private static void throwsOf(String text) {
        Matcher thrown = Pattern.compile("\\bthrow\\b[^;]*;").matcher(text);
        int many = 0;
        while (thrown.find()) {
            Check.isSo(thrown.group(), thrown.group().matches("throw new (" + THROWN + ")\\(\"[^\"0-9]+\"\\);"));
            many++;
        }
        Check.isSo("there are throws", many > 0);
    }

    private static void methodsAreShort(String text) {
        String[] lines = text.split("\n");
        int many = 0;
        for (int n = 0; n < lines.length; n++) {
            if (!lines[n].matches(" {4,8}[a-zA-Z].*\\(.*[^;]") || lines[n].matches(" *(if|for|while|switch|do|return)\\b.*")) {
                continue;
            }
            many++;
            String end = lines[n].replaceAll("\\S.*", "") + "}";
            int last = n;
            while (last < lines.length && !lines[last].startsWith(end)) {
                last++;
            }
            Check.isSo(lines[n].trim() + " has some sixty lines at most", last - n <= 60);
        }
        Check.isSo("that every call of the face is among the methods", many > FACE.length);
    }
}
