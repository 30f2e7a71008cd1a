import java.io.ByteArrayOutputStream;
import java.io.IOException;
import java.io.OutputStream;
import java.lang.reflect.Method;
import java.net.URI;
import java.nio.charset.StandardCharsets;
import java.nio.file.Files;
import java.nio.file.Path;
import java.util.Arrays;
import java.util.HashMap;
import java.util.List;
import java.util.Map;
import javax.tools.FileObject;
import javax.tools.ForwardingJavaFileManager;
import javax.tools.JavaCompiler;
import javax.tools.JavaFileManager;
import javax.tools.JavaFileObject;
import javax.tools.SimpleJavaFileObject;
import javax.tools.ToolProvider;

/**
 * The theorem is true of all that can be told, so isTrue() and its like answer true, tried or not. That they do try it is
 * seen where it is not so: one fault at a time is put into a copy of the class, into what the theorem speaks of (never
 * into the trial itself), and the trial has to answer false, where that of the class as it stands answers true.
 */
public final class TrialsTest {
    private static final String WHOLE_ROOT = "            return root;\n";
    private static final String ROOT = "return (double) ((root + 1) >> 1) / (double) (1L << (behindPoint - 1));";
    private static final String CUT_ROOT = "return (double) (((root + 1) >> 1) / (1L << (behindPoint - 1)));";
    private static final String HYPOT = "return nearestRoot((long) sum);";
    private static final String COMPARED = "Long.compare(squaresBeside(2), 0)";
    private static final String SHARPNESS = "return " + COMPARED + ";";
    private static final String AROUND = "return a + b + c;";
    private static final String ROOT_OF_S = "return shared * Numbers.wholeRoot(outerRest) * Numbers.wholeRoot(innerRest);";

    private static String source = "";
    private static Class<?> asItStands = null;
    private static int wrong = 0;

    public static void main(String[] args) throws Exception {
        source = Files.readString(Path.of("src/main/java/Trigonyard.java"));
        asItStands = made(source);
        roots();
        hypots();
        sharpness();
        areas();
        rightOnes();
        primitiveOnes();
        lists();
        counts();
        System.out.println(wrong == 0 ? "trials: all as due" : "trials: " + wrong + " not as due");
        if (wrong != 0) {
            System.exit(1);
        }
    }

    /** (1) */
    private static void roots() throws Exception {
        fault("r lacks what is above", with("digit = 1L << 17;", "digit = 1L << 15;"), "rootIsTrue", 8589672450L);
        fault("r and sqrt() are too great", with(with(source, WHOLE_ROOT, WHOLE_ROOT.replace(";", " + 1;")),
                ROOT, ROOT.replace(";", " + 1.0;")), "rootIsTrue", 2);
        fault("r and sqrt() are too small", with(with(source, WHOLE_ROOT, WHOLE_ROOT.replace(";", " - 1;")),
                ROOT, ROOT.replace(";", " - 1.0;")), "rootIsTrue", 50);
        fault("sqrt() is whole for no square", with(ROOT, CUT_ROOT), "rootIsTrue", 2);
        fault("sqrt() of a square is not whole", with(ROOT, ROOT.replace(";", " + 0.5;")), "rootIsTrue", 92680L * 92680L);
        fault("sqrt() of a square is another one", with(ROOT, ROOT.replace(";", " + 1.0;")), "rootIsTrue", 49);
        fault("sqrt(), cut, is not r", with(ROOT, ROOT.replace(";", " + 1.0;")), "rootIsTrue", 50);
    }

    /** (2), by itself and with the sides of a triangle, two by two */
    private static void hypots() throws Exception {
        fault("hypot() is not the sqrt()", with(HYPOT, "return nearestRoot((long) sum + 1);"), "hypotIsTrue", 3, 5);
        fault("hypot() is whole for no square", with(ROOT, CUT_ROOT), "hypotIsTrue", 1, 1);
        fault("hypot() goes by which is told first", with(HYPOT, moreIf("one < other")), "hypotIsTrue", 5, 3);
        fault("hypot() goes by which is told last", with(HYPOT, moreIf("one > other")), "hypotIsTrue", 3, 5);
        fault("hypot() of two sides", with(HYPOT, moreIf("one == 13 && other == 14")), "isTrue", 13, 14, 15);
        fault("hypot() of two sides", with(HYPOT, moreIf("one == 13 && other == 15")), "isTrue", 13, 14, 15);
        fault("hypot() of two sides", with(HYPOT, moreIf("one == 14 && other == 15")), "isTrue", 13, 14, 15);
    }

    private static String moreIf(String what) {
        return "return nearestRoot((long) sum) + (" + what + " ? 0.001 : 0.0);";
    }

    /** (3) */
    private static void sharpness() throws Exception {
        fault("obtuse is told as right", with(SHARPNESS, "return Math.max(" + COMPARED + ", 0);"), "isTrue", 2, 2, 3);
        fault("obtuse is told as acute", with(SHARPNESS, "return Math.abs(" + COMPARED + ");"), "isTrue", 2, 2, 3);
        fault("acute is told as right", with(SHARPNESS, "return Math.min(" + COMPARED + ", 0);"), "isTrue", 7, 7, 8);
        fault("acute is told as obtuse", with(SHARPNESS, "return -Math.abs(" + COMPARED + ");"), "isTrue", 7, 7, 8);
        fault("right is told as acute", with(SHARPNESS, "return " + COMPARED + " < 0 ? -1 : 1;"), "isTrue", 3, 4, 5);
        fault("right is told as obtuse", with(SHARPNESS, "return " + COMPARED + " > 0 ? 1 : -1;"), "isTrue", 3, 4, 5);
    }

    /** (4) */
    private static void areas() throws Exception {
        fault("S is not above 0", with(with(source, "return (one * other) & LOW_MASK;", "return 0;"),
                "return (one >> LOW_DIGITS) * other +", "return 0 * other +"), "isTrue", 7, 7, 7);
        String low = "lowS = Numbers.low(outer, inner);";
        fault("S is 1 more", with(low, "lowS = Numbers.low(outer, inner) + 1;"), "isTrue", 2, 2, 3);
        String high = "highS = Numbers.high(outer, inner);";
        fault("S is less above", with(high, "highS = Numbers.high(outer, inner) - 1;"), "isTrue", 65533, 65534, 65535);
        fault("S is above a b c P", with(AROUND, "return 2;"), "isTrue", 13, 14, 15);
        fault("S of sides alike is below a b c P", with(AROUND, "return a + b + c + 2;"), "isTrue", 7, 7, 7);
        fault("P is odd, S a square", with(AROUND, "return a + b + c + 1;"), "isTrue", 13, 14, 15);
        fault("the area is no whole number", with(ROOT_OF_S, ROOT_OF_S.replace(";", " + 1;")), "isTrue", 13, 14, 15);
        fault("the area is no multiple of 6", with(ROOT_OF_S, ROOT_OF_S.replace(";", " / 4;")), "isTrue", 13, 14, 15);
    }

    /** (5) */
    private static void rightOnes() throws Exception {
        fault("S is no square", with(ROOT_OF_S, "return 0;"), "isTrue", 9, 12, 15);
        fault("the inner circle is another one", with("wholeQuotient(wholeRootOfS(), 2L * around())",
                "wholeQuotient(wholeRootOfS(), 1L * around())"), "isTrue", 9, 12, 15);
        fault("the outer circle is another one", with("wholeQuotient(2L * a * b * c, wholeRootOfS())",
                "wholeQuotient(4L * a * b * c, wholeRootOfS())"), "isTrue", 9, 12, 15);
    }

    /** (6), of one triangle */
    private static void primitiveOnes() throws Exception {
        fault("m and n make another one", with("return (a & 1) == 1 ? a : b;", "return (a & 1) == 1 ? b : a;"),
                "isTrue", 20, 21, 29);
        fault("m and n have a common divisor", with("            return divisor;\n",
                "            return Math.max(divisor, other == 1 ? 2 : 1);\n"), "isTrue", 3, 4, 5);
        fault("no steps lead to it", with("return x + 2 * y - 2 * z;", "return x + 2 * y - z;"), "isTrue", 20, 21, 29);
        fault("the steps lead elsewhere", with("return 3 * z - 2 * x - 2 * y;", "return z - 1;"), "isTrue", 20, 21, 29);
    }

    /** (6), of all up to a bound, by three ways */
    private static void lists() throws Exception {
        fault("m and n make others, too", with("if ((m + n) % 2 == 1 && Numbers", "if (Numbers"), "listIsTrue", 400);
        fault("an m is left out", with("for (int m = 2; m * m <= bound", "for (int m = 3; m * m <= bound"), "listIsTrue", 5);
        fault("3, 4, 5 is left out", with("add(3, 4, Steps.FIRST_LONGEST);", ""), "listIsTrue", 5);
        String step = "addStep('c', x, y, z, bound);";
        fault("a step is left out", with(step, ""), "listIsTrue", 17);
        fault("a step is made twice", with(step, step + step), "listIsTrue", 17);
        fault("hypot() finds others, too", with("&& Numbers.commonDivisor(odd, even) == 1", ""), "listIsTrue", 15);
        fault("hypot() finds none", with("Numbers.nearestHypot(odd, even) == (double) longest",
                "Numbers.nearestHypot(odd, even) > (double) longest"), "listIsTrue", 5);
        String last = "                fillByHypot(bound);\n            }\n";
        fault("one comes twice by each way", with(last, last + "if (count > 1) { keys[1] = keys[0]; }"), "listIsTrue", 400);
    }

    /** (7) */
    private static void counts() throws Exception {
        String longest = "count += beside == 0 ? 1 : 0;";
        fault("more have it as longest side", with(longest, "count += beside == 0 ? 2 : 0;"), "countIsTrue", 65);
        fault("none have it as longest side", with(longest, "count += 0;"), "countIsTrue", 1000);
        String difference = "for (int difference = 1; difference < number; difference++)";
        fault("more have it as a leg", with(difference, difference.replace("<", "<=")), "countIsTrue", 1);
        fault("fewer have it as a leg", with(difference, difference.replace("= 1", "= 2")), "countIsTrue", 999);
        fault("fewer have it as a leg", with(difference, difference.replace("= 1", "= 3")), "countIsTrue", 8);
    }

    // A fault, and the trial that has to find it

    private static void fault(String what, String code, String trial, long... numbers) throws Exception {
        String call = trial + Arrays.toString(numbers);
        if (!answerOf(asItStands, trial, numbers)) {
            notAsDue(call + " of the class as it stands is false");
        }
        if (answerOf(made(code), trial, numbers)) {
            notAsDue(what + ", but " + call + " is true");
        }
    }

    private static String with(String text, String instead) {
        return with(source, text, instead);
    }

    private static String with(String code, String text, String instead) {
        int at = code.indexOf(text);
        if (at < 0 || code.indexOf(text, at + 1) >= 0) {
            notAsDue("the class has not just once: " + text);
            return code;
        }
        return code.substring(0, at) + instead + code.substring(at + text.length());
    }

    private static void notAsDue(String text) {
        wrong++;
        System.out.println(text);
    }

    private static Class<?> made(String code) throws ClassNotFoundException {
        return new Copies(code).loadClass("Trigonyard");
    }

    private static boolean answerOf(Class<?> made, String trial, long... numbers) throws Exception {
        Object yard = made.getConstructor().newInstance();
        if (trial.equals("isTrue")) {
            made.getMethod("put", int.class, int.class, int.class, int.class)
                    .invoke(yard, 0, (int) numbers[0], (int) numbers[1], (int) numbers[2]);
            return (boolean) made.getMethod("isTrue", int.class).invoke(yard, 0);
        }
        for (Method m : made.getMethods()) {
            if (m.getName().equals(trial)) {
                return (boolean) m.invoke(yard, as(m.getParameterTypes(), numbers));
            }
        }
        throw new IllegalStateException("there is no " + trial);
    }

    private static Object[] as(Class<?>[] types, long[] numbers) {
        Object[] all = new Object[types.length];
        for (int i = 0; i < types.length; i++) {
            all[i] = types[i] == long.class ? (Object) numbers[i] : (Object) (int) numbers[i];
        }
        return all;
    }

    /** The classes of one source text, compiled and held in memory, apart from those of the test's own class path. */
    private static final class Copies extends ClassLoader {
        private final Map<String, ByteArrayOutputStream> classes = new HashMap<>();

        Copies(String code) {
            super(ClassLoader.getPlatformClassLoader());
            JavaCompiler compiler = ToolProvider.getSystemJavaCompiler();
            JavaFileObject text = new SimpleJavaFileObject(URI.create("string:///Trigonyard.java"), JavaFileObject.Kind.SOURCE) {
                @Override
                public CharSequence getCharContent(boolean ignoreEncodingErrors) {
                    return code;
                }
            };
            JavaFileManager files = filesOf(compiler.getStandardFileManager(null, null, StandardCharsets.UTF_8));
            if (!compiler.getTask(null, files, null, List.of("-nowarn", "-proc:none"), null, List.of(text)).call()) {
                throw new IllegalStateException("the class with the fault does not compile");
            }
        }

        private JavaFileManager filesOf(JavaFileManager standard) {
            return new ForwardingJavaFileManager<>(standard) {
                @Override
                public JavaFileObject getJavaFileForOutput(Location location, String name, JavaFileObject.Kind kind,
                        FileObject sibling) {
                    return new SimpleJavaFileObject(URI.create("memory:///" + name), kind) {
                        @Override
                        public OutputStream openOutputStream() throws IOException {
                            ByteArrayOutputStream bytes = new ByteArrayOutputStream();
                            classes.put(name, bytes);
                            return bytes;
                        }
                    };
                }
            };
        }

        @Override
        protected Class<?> findClass(String name) throws ClassNotFoundException {
            ByteArrayOutputStream bytes = classes.get(name);
            if (bytes == null) {
                throw new ClassNotFoundException(name);
            }
            return defineClass(name, bytes.toByteArray(), 0, bytes.size());
        }
    }
}
