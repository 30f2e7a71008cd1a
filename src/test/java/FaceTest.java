import java.io.IOException;
import java.lang.reflect.Constructor;
import java.lang.reflect.Executable;
import java.lang.reflect.Field;
import java.lang.reflect.Method;
import java.lang.reflect.Modifier;
import java.nio.file.Files;
import java.nio.file.Path;
import java.util.ArrayList;
import java.util.List;
import java.util.Set;
import java.util.TreeSet;
import java.util.regex.Matcher;
import java.util.regex.Pattern;

/** The face is the document's, no more and no less, and the file keeps to what a text search can tell of LANGUAGE.md. */
public final class FaceTest {
    private static int wrong = 0;

    private static void fault(String text) {
        wrong++;
        System.out.println(text);
    }

    public static void main(String[] args) throws IOException {
        Set<String> due = dueFace(Files.readString(Path.of("../shared/DOC.md")));
        Set<String> got = toldFace();
        if (due.size() != 36) {
            fault("the document's face has " + due.size() + " calls, read were to be 36");
        }
        for (String line : due) {
            if (!got.contains(line)) {
                fault("missing: " + line);
            }
        }
        for (String line : got) {
            if (!due.contains(line)) {
                fault("not in the document: " + line);
            }
        }
        everyFieldIsPrivate();
        noMoreThanTheClassItself();
        classesInsideAreHidden();
        noPrivateMethodBearsAPublicName();
        String source = Files.readString(Path.of("src/main/java/Trigonyard.java"));
        parametersAreNamedAsTold(Files.readString(Path.of("../shared/DOC.md")), source);
        textRules(source);
        methodsAreShort(source);
        System.out.println(wrong == 0 ? "face: all as due" : "face: " + wrong + " faults");
        if (wrong != 0) {
            System.exit(1);
        }
    }

    private static Set<String> dueFace(String document) {
        Set<String> face = new TreeSet<>();
        Matcher m = Pattern.compile("(?m)^    public ([^;]*);").matcher(document);
        while (m.find()) {
            face.add(m.group(1).replaceAll("\\b(int|long|char) \\w+(?=[,)])", "$1").replaceAll("\\s+", " "));
        }
        return face;
    }

    private static Set<String> toldFace() {
        Set<String> face = new TreeSet<>();
        if (!Modifier.isFinal(Trigonyard.class.getModifiers()) || !Modifier.isPublic(Trigonyard.class.getModifiers())) {
            fault("the class is not public and final");
        }
        for (Constructor<?> c : Trigonyard.class.getDeclaredConstructors()) {
            addUnlessPrivate(face, c, c.getDeclaringClass().getSimpleName());
        }
        for (Method m : Trigonyard.class.getDeclaredMethods()) {
            addUnlessPrivate(face, m, m.getReturnType().getSimpleName() + " " + m.getName());
        }
        return face;
    }

    private static void parametersAreNamedAsTold(String document, String source) {
        String code = source.replaceAll("\\s+", " ");
        Matcher m = Pattern.compile("(?m)^    (public [^;]*);").matcher(document);
        while (m.find()) {
            if (!code.contains(m.group(1) + " {")) {
                fault("not word by word in the code: " + m.group(1));
            }
        }
    }

    private static void noMoreThanTheClassItself() {
        if (Trigonyard.class.getSuperclass() != Object.class || Trigonyard.class.getInterfaces().length > 0) {
            fault("the class is one of another sort, too");
        }
        if (Trigonyard.class.getTypeParameters().length > 0 || Trigonyard.class.getPackageName().length() > 0) {
            fault("the class has a parameter or a package");
        }
    }

    private static void classesInsideAreHidden() {
        for (Class<?> inside : Trigonyard.class.getDeclaredClasses()) {
            int modifiers = inside.getModifiers();
            if (Modifier.isPublic(modifiers) || Modifier.isProtected(modifiers) || !Modifier.isStatic(modifiers)) {
                fault("not private or package-visible and static: " + inside.getSimpleName());
            }
        }
    }

    private static void addUnlessPrivate(Set<String> face, Executable e, String name) {
        if (!Modifier.isPrivate(e.getModifiers())) {
            if (e.getModifiers() != Modifier.PUBLIC) {
                fault("not public alone: " + name);
            }
            String line = name + "(" + names(e.getParameterTypes()) + ")";
            String thrown = names(e.getExceptionTypes());
            face.add(thrown.isEmpty() ? line : line + " throws " + thrown);
        }
    }

    private static String names(Class<?>[] types) {
        List<String> all = new ArrayList<>();
        for (Class<?> type : types) {
            all.add(type.getSimpleName());
        }
        return String.join(", ", all);
    }

    private static void everyFieldIsPrivate() {
        for (Field f : Trigonyard.class.getDeclaredFields()) {
            if (!Modifier.isPrivate(f.getModifiers())) {
                fault("not private: " + f.getName());
            }
            if (Modifier.isStatic(f.getModifiers()) && !Modifier.isFinal(f.getModifiers())) {
                fault("static, not final: " + f.getName());
            }
        }
        if (Trigonyard.class.getDeclaredClasses().length > 12) {
            fault("more than twelve classes");
        }
    }

    private static void textRules(String source) {
        String code = source.replaceAll("(?s)/\\*.*?\\*/", "").replaceAll("//[^\n]*", "")
                .replaceAll("\\b(case [^:;{}]*?|default ?)->", "");
        String[] none = {"->", "::", "Exact\\(", "StrictMath", "BigInteger", "\\bfinally\\b", "\\bassert\\b",
            "\\bsynchronized\\b", "\\bgetMessage\\b", "\\bSystem\\.(?!arraycopy)", "\\bDouble\\.", "\\bFloat\\.",
            "\\bMath\\.(sqrt|hypot|cbrt|pow|exp|log|sin|cos|tan|random|round|rint|floor\\(|ceil\\()", "\\btry \\(",
            "catch \\((Array|Null|ClassCast|NegativeArray|Exception|Throwable|Error)",
            "^import (?!java\\.util\\.(NoSuchElementException|ArrayList|List|Iterator|Arrays);)", "^package"};
        for (String pattern : none) {
            Matcher m = Pattern.compile(pattern, Pattern.MULTILINE).matcher(code);
            if (m.find()) {
                fault("in the code: " + pattern);
            }
        }
    }

    private static void noPrivateMethodBearsAPublicName() {
        Set<String> names = new TreeSet<>();
        for (Method m : Trigonyard.class.getDeclaredMethods()) {
            if (Modifier.isPublic(m.getModifiers())) {
                names.add(m.getName());
            }
        }
        List<Class<?>> classes = new ArrayList<>(List.of(Trigonyard.class.getDeclaredClasses()));
        classes.add(Trigonyard.class);
        for (Class<?> c : classes) {
            for (Method m : c.getDeclaredMethods()) {
                if (Modifier.isPrivate(m.getModifiers()) && names.contains(m.getName())) {
                    fault("a private method bears a public name: " + c.getSimpleName() + "." + m.getName());
                }
            }
        }
    }

    private static void methodsAreShort(String source) {
        String[] lines = source.split("\n");
        int start = -1;
        String indent = "";
        for (int i = 0; i < lines.length; i++) {
            Matcher m = Pattern.compile("^( {4}| {8})\\S.*\\(.*").matcher(lines[i]);
            if (start < 0 && m.matches() && !lines[i].endsWith(";") && !lines[i].contains("//")) {
                start = i;
                indent = m.group(1);
            } else if (start >= 0 && lines[i].equals(indent + "}")) {
                if (i - start + 1 > 65) {
                    fault("longer than some sixty lines: " + lines[start].trim());
                }
                start = -1;
            }
        }
    }
}
