import java.io.IOException;
import java.nio.file.Files;
import java.nio.file.Path;
import java.util.Set;
import java.util.TreeSet;
import java.util.regex.Matcher;
import java.util.regex.Pattern;

/**
 * What the tests of edges share. Each of their tests is of one sentence of the document; a sentence of a promise that
 * has none is a fault, and so is one that does not stand there. Every refused call is made on an object of its own and
 * compared, by all that can be asked of it, with one on which the call was never made. No object gets over 512 calls.
 */
class Sentences {
    static final Class<?> INDEX = IndexOutOfBoundsException.class;
    static final Class<?> ARGUMENT = IllegalArgumentException.class;
    static final Class<?> STATE = IllegalStateException.class;
    static final Class<?> NONE = java.util.NoSuchElementException.class;
    static final int[] NO_PLACES = {-1, 16, 17, 32, 256, 65536, -16, Integer.MIN_VALUE, Integer.MAX_VALUE};
    static final int[] NO_SIDES = {-1, 3, 4, 256, 65536, -3, Integer.MIN_VALUE, Integer.MAX_VALUE};
    static final int[] NO_LENGTHS = {0, 65536, 65537, -1, -65535, Integer.MIN_VALUE, Integer.MAX_VALUE};

    /** The sixteen primitive triangles up to 97: each call that asks for some sort of triangle takes them. */
    private static final int[][] FULL = {{3, 4, 5}, {5, 12, 13}, {8, 15, 17}, {7, 24, 25}, {20, 21, 29}, {12, 35, 37},
        {9, 40, 41}, {28, 45, 53}, {11, 60, 61}, {16, 63, 65}, {33, 56, 65}, {48, 55, 73}, {13, 84, 85}, {36, 77, 85},
        {39, 80, 89}, {65, 72, 97}};

    interface Call {
        Object on(Trigonyard x);
    }

    interface PlaceCall {
        Object on(Trigonyard x, int place);
    }

    interface SignCall {
        Object on(Trigonyard x, char sign);
    }

    interface Maker {
        Trigonyard make();
    }

    private final String name;
    private final String document;
    private final Set<String> promised = new TreeSet<>();
    private final Set<String> open = new TreeSet<>();
    private String now = "";
    private int wrong = 0;

    Sentences(String name, int firstPromise, int lastPromise) throws IOException {
        this.name = name;
        document = Files.readString(Path.of("../shared/DOC.md"));
        Matcher m = Pattern.compile("(?ms)^## Promise (\\d+): [^\\n]*\\n(.*?)(?=^## |\\z)").matcher(document);
        while (m.find()) {
            int promise = Integer.parseInt(m.group(1));
            if (firstPromise <= promise && promise <= lastPromise) {
                addSentences(promise, m.group(2));
            }
        }
        open.addAll(promised);
    }

    private void addSentences(int promise, String section) {
        for (String paragraph : section.split("\\n\\s*\\n|\\n(?=- )")) {
            String text = plain(paragraph).replaceFirst("^- ", "").replaceFirst("^`\\w+ ?\\w*\\(.*?`: ", "");
            if (!text.isEmpty()) {
                promised.add(promise + ": " + text);
            }
        }
    }

    private static String plain(String text) {
        return text.trim().replaceAll("\\s+", " ");
    }

    // Tests and what they find

    /** The test of a sentence of a promise. */
    void test(int promise, String sentence, Runnable body) {
        now = promise + ": " + sentence;
        if (!promised.contains(now)) {
            fault("the document has no such sentence");
        }
        open.remove(now);
        run(body);
    }

    /** The test of a sentence that stands elsewhere in the document. */
    void testTerm(String sentence, Runnable body) {
        now = sentence;
        if (!plain(document).contains(sentence)) {
            fault("the document has no such sentence");
        }
        run(body);
    }

    private void run(Runnable body) {
        try {
            body.run();
        } catch (RuntimeException e) {
            fault("a call that is due to answer threw " + e);
        }
    }

    void fault(String text) {
        wrong++;
        System.out.println("[" + now + "] " + text);
    }

    void due(String what, Object got, Object want) {
        if (!want.equals(got)) {
            fault(what + " answered " + got + ", due is " + want);
        }
    }

    void end() {
        for (String sentence : open) {
            now = sentence;
            fault("has no test");
        }
        System.out.println(wrong == 0 ? name + ": all as due" : name + ": " + wrong + " not as due");
        if (wrong != 0) {
            System.exit(1);
        }
    }

    // Objects

    static Trigonyard fresh() {
        return new Trigonyard();
    }

    /** Triangles at the places from 0 on, a list of five and an order: something in each part of the state. */
    static Trigonyard holding(int... sides) {
        Trigonyard x = new Trigonyard();
        for (int i = 0; i + 2 < sides.length; i += 3) {
            x.put(i / 3, sides[i], sides[i + 1], sides[i + 2]);
        }
        x.list('t', 30);
        x.sort('c');
        return x;
    }

    /** Some of the places, the first among them. */
    static Trigonyard busy() {
        return holding(13, 14, 15, 3, 4, 5, 9, 12, 15, 7, 7, 7, 2, 2, 3);
    }

    /** All places. */
    static Trigonyard full() {
        Trigonyard x = new Trigonyard();
        for (int place = 0; place < 16; place++) {
            x.put(place, FULL[place][0], FULL[place][1], FULL[place][2]);
        }
        x.list('e', 65);
        x.sort('s');
        return x;
    }

    /** All that can be asked of an object's state. */
    static String told(Trigonyard x) {
        return places(x) + "; list " + list(x) + "; order " + order(x) + "; " + x.mean() + ", " + x.checksum();
    }

    static String at(Trigonyard x, int place) {
        if (!x.isHeld(place)) {
            return "none";
        }
        return x.side(place, 0) + " " + x.side(place, 1) + " " + x.side(place, 2);
    }

    static String places(Trigonyard x) {
        StringBuilder all = new StringBuilder();
        for (int place = 0; place < 16; place++) {
            all.append(place == 0 ? "" : ", ").append(at(x, place));
        }
        return all.toString();
    }

    /** The list as far as it answers. */
    static String list(Trigonyard x) {
        StringBuilder all = new StringBuilder();
        for (int number = 0; number < 70; number++) {
            try {
                all.append(x.listed(number, 0)).append(' ').append(x.listed(number, 1)).append(' ');
                all.append(x.listed(number, 2)).append(", ");
            } catch (IndexOutOfBoundsException e) {
                break;
            }
        }
        return all.toString();
    }

    /** The order as far as it answers. */
    static String order(Trigonyard x) {
        StringBuilder all = new StringBuilder();
        for (int number = 0; number < 20; number++) {
            try {
                all.append(x.sorted(number)).append(' ');
            } catch (IndexOutOfBoundsException e) {
                break;
            }
        }
        return all.toString();
    }

    // Refused calls

    static Class<?> thrownBy(Trigonyard x, Call call) {
        try {
            call.on(x);
            return null;
        } catch (RuntimeException e) {
            return e.getClass();
        }
    }

    /** The call throws just this class, none below it, and changes nothing. */
    void refused(String what, Maker maker, Class<?> type, Call call) {
        Trigonyard x = maker.make();
        Class<?> thrown = thrownBy(x, call);
        if (thrown != type) {
            fault(what + " threw " + thrown + ", due is " + type);
        }
        due(what + ": all that is told then", told(x), told(maker.make()));
    }

    /** Refused whatever is held. */
    void refusedAlways(String what, Class<?> type, Call call) {
        refused(what + " on a new one", Sentences::fresh, type, call);
        refused(what + " on a busy one", Sentences::busy, type, call);
        refused(what + " on a full one", Sentences::full, type, call);
    }

    /** The call changes nothing, though it answers. */
    void leavesAll(String what, Maker maker, Call call) {
        Trigonyard x = maker.make();
        call.on(x);
        due(what + ": all that is told then", told(x), told(maker.make()));
    }

    // What many promises say of places and signs

    /** From 0 to 15, each place is as good as another one. */
    void placesAreAlike(PlaceCall call) {
        Trigonyard y = new Trigonyard();
        y.put(7, 20, 21, 29);
        Object want = call.on(y, 7);
        String wantHeld = at(y, 7);
        for (int place = 0; place < 16; place++) {
            Trigonyard x = new Trigonyard();
            x.put(place, 20, 21, 29);
            due("place " + place, call.on(x, place), want);
            due("place " + place + " then", at(x, place), wantHeld);
            for (int other = 0; other < 16; other++) {
                due("place " + other + " beside it", other != place && x.isHeld(other), false);
            }
        }
    }

    /** Below 0 and above 15 there is none. */
    void otherPlacesAreRefused(PlaceCall call) {
        for (int place : NO_PLACES) {
            refusedAlways("place " + place, INDEX, x -> call.on(x, place));
        }
    }

    /** At each place, as long as none is held there: never was, or not any more. */
    void refusedWhereNoneIs(PlaceCall call) {
        for (int place = 0; place < 16; place++) {
            int free = place;
            refused("place " + place + " of a new one", Sentences::fresh, NONE, x -> call.on(x, free));
            refused("place " + place + " after take", () -> without(free), NONE, x -> call.on(x, free));
        }
    }

    private static Trigonyard without(int place) {
        Trigonyard x = full();
        x.take(place);
        return x;
    }

    /** Each of the 65536 signs but those that are told is refused, on a new object and on one that holds 3, 4, 5 at 0. */
    void otherSignsAreRefused(String allowed, SignCall call) {
        for (int number = 0; number < 65536; number++) {
            char sign = (char) number;
            if (allowed.indexOf(sign) < 0) {
                Trigonyard x = new Trigonyard();
                Class<?> onNew = thrownBy(x, y -> call.on(y, sign));
                x.put(0, 3, 4, 5);
                Class<?> onHeld = thrownBy(x, y -> call.on(y, sign));
                if (onNew != ARGUMENT || onHeld != ARGUMENT) {
                    fault("sign " + number + " threw " + onNew + " and " + onHeld + ", due is " + ARGUMENT);
                }
            }
        }
        for (int i = 0; i < allowed.length(); i++) {
            char sign = allowed.charAt(i);
            for (int beside : new int[] {sign - 1, sign + 1, sign ^ 32, sign + 256, 0, 65535}) {
                if (allowed.indexOf(beside) < 0) {
                    refusedAlways("sign " + beside, ARGUMENT, x -> call.on(x, (char) beside));
                }
            }
        }
    }
}
