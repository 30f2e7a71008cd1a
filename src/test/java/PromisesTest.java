import java.math.BigInteger;
import java.util.NoSuchElementException;

/** Promises 1 to 36, one method each: ordinary calls, the edges that the document names, and wrong calls. */
public final class PromisesTest {
    private static final Class<?> INDEX = IndexOutOfBoundsException.class;
    private static final Class<?> ARGUMENT = IllegalArgumentException.class;
    private static final Class<?> STATE = IllegalStateException.class;
    private static final Class<?> NONE = NoSuchElementException.class;
    private static final int[] NO_PLACES = {-1, 16, Integer.MIN_VALUE, Integer.MAX_VALUE};
    private static final int[] NO_SIDES = {-1, 3, Integer.MIN_VALUE, Integer.MAX_VALUE};
    private static final long GREATEST = 8589672450L;

    private static int wrong = 0;

    private interface Call {
        void go();
    }

    private static void due(String what, Object got, Object want) {
        if (!want.equals(got)) {
            wrong++;
            System.out.println(what + " answered " + got + ", due is " + want);
        }
    }

    /** The call throws just this class (none below it), and nothing has changed then. */
    private static void refused(String what, Trigonyard x, Class<?> type, Call call) {
        long before = x.checksum();
        Class<?> thrown = null;
        try {
            call.go();
        } catch (RuntimeException e) {
            thrown = e.getClass();
        }
        if (thrown != type) {
            wrong++;
            System.out.println(what + " threw " + thrown + ", due is " + type);
        }
        due(what + ": checksum afterwards", x.checksum(), before);
    }

    private static String sides(Trigonyard x, int place) {
        return x.side(place, 0) + " " + x.side(place, 1) + " " + x.side(place, 2);
    }

    private static Trigonyard holding(int... sides) {
        Trigonyard x = new Trigonyard();
        for (int i = 0; i + 2 < sides.length; i += 3) {
            x.put(i / 3, sides[i], sides[i + 1], sides[i + 2]);
        }
        return x;
    }

    /** Something in each part of the state, so that a change shows. */
    private static Trigonyard busy() {
        Trigonyard x = holding(3, 4, 5, 13, 14, 15, 9, 12, 15, 7, 7, 7);
        x.list('e', 100);
        x.sort('p');
        return x;
    }

    public static void main(String[] args) {
        promise1New();
        promise2Put();
        promise3Take();
        promise4IsHeld();
        promise5Side();
        promise6Copy();
        promise7Scale();
        promise8Reduce();
        promise9Join();
        promise10Kind();
        promise11Angle();
        promise12AreaIsWhole();
        promise13Area();
        promise14Circle();
        promise15CompareAreas();
        promise16Product();
        promise17Bits();
        promise18Hypot();
        promise19Root();
        promise20Shape();
        promise21Mean();
        promise22Euclid();
        promise23Step();
        promise24Depth();
        promise25Generator();
        promise26List();
        promise27Listed();
        promise28Counts();
        promise29Sort();
        promise30Sorted();
        promise31Checksum();
        promise32IsTrue();
        promise33RootIsTrue();
        promise34HypotIsTrue();
        promise35ListIsTrue();
        promise36CountIsTrue();
        System.out.println(wrong == 0 ? "promises: all as due" : "promises: " + wrong + " not as due");
        if (wrong != 0) {
            System.exit(1);
        }
    }

    private static void promise1New() {
        Trigonyard x = new Trigonyard();
        for (int place = 0; place < 16; place++) {
            due("new: isHeld " + place, x.isHeld(place), false);
        }
        refused("new: listed", x, INDEX, () -> x.listed(0, 0));
        refused("new: sorted", x, INDEX, () -> x.sorted(0));
        due("new: checksum", x.checksum(), 0L);
        due("new: mean", x.mean(), 0.0);
    }

    private static void promise2Put() {
        Trigonyard x = new Trigonyard();
        int[][] orders = {{5, 6, 7}, {5, 7, 6}, {6, 5, 7}, {6, 7, 5}, {7, 5, 6}, {7, 6, 5}};
        for (int[] o : orders) {
            due("put in any order", x.put(15, o[0], o[1], o[2]), 1);
            due("put in any order: sides", sides(x, 15), "5 6 7");
        }
        due("put greatest", x.put(0, 65535, 65535, 65535), 2);
        due("put greatest: sides", sides(x, 0), "65535 65535 65535");
        due("put least", x.put(0, 1, 1, 1), 2);
        due("put in place of another: sides", sides(x, 0), "1 1 1");
        due("put flat", x.put(1, 1, 65535, 65535), 3);
        due("put nearly flat", x.put(1, 32768, 32768, 65535), 3);
        for (int place : NO_PLACES) {
            refused("put at no place", x, INDEX, () -> x.put(place, 0, 1, 9));
        }
        for (int side : new int[] {0, -1, 65536, Integer.MIN_VALUE, Integer.MAX_VALUE}) {
            refused("put a " + side, x, ARGUMENT, () -> x.put(0, side, 1, 1));
            refused("put b " + side, x, ARGUMENT, () -> x.put(0, 1, side, 1));
            refused("put c " + side, x, ARGUMENT, () -> x.put(0, 1, 1, side));
            refused("put at a free place " + side, x, ARGUMENT, () -> x.put(9, side, side, side));
        }
        refused("put flat a", x, STATE, () -> x.put(0, 3, 1, 2));
        refused("put flat b", x, STATE, () -> x.put(0, 1, 3, 2));
        refused("put flat c", x, STATE, () -> x.put(9, 1, 2, 3));
        refused("put too long", x, STATE, () -> x.put(0, 1, 65535, 1));
    }

    private static void promise3Take() {
        Trigonyard x = busy();
        due("take", x.take(1), 3);
        due("take: isHeld", x.isHeld(1), false);
        refused("take again", x, NONE, () -> x.take(1));
        refused("take never held", x, NONE, () -> x.take(15));
        for (int place : NO_PLACES) {
            refused("take no place", x, INDEX, () -> x.take(place));
        }
        due("take others", x.take(0) + x.take(2) * 10 + x.take(3) * 100, 12);
        due("take leaves the list and the order", x.listed(0, 2) * 100 + x.sorted(3), 501);
    }

    private static void promise4IsHeld() {
        Trigonyard x = busy();
        due("isHeld", x.isHeld(3), true);
        due("isHeld free", x.isHeld(4), false);
        due("isHeld last", x.isHeld(15), false);
        x.put(15, 2, 2, 2);
        due("isHeld last then", x.isHeld(15), true);
        for (int place : NO_PLACES) {
            refused("isHeld no place", x, INDEX, () -> x.isHeld(place));
        }
    }

    private static void promise5Side() {
        Trigonyard x = holding(8, 6, 10);
        due("side", sides(x, 0), "6 8 10");
        for (int which : NO_SIDES) {
            refused("side which " + which, x, INDEX, () -> x.side(0, which));
            refused("side which of none", x, INDEX, () -> x.side(1, which));
        }
        for (int place : NO_PLACES) {
            refused("side no place", x, INDEX, () -> x.side(place, 0));
        }
        refused("side of none", x, NONE, () -> x.side(1, 0));
    }

    private static void promise6Copy() {
        Trigonyard x = busy();
        due("copy to a free place", x.copy(1, 15), 5);
        due("copy: there", sides(x, 15), "13 14 15");
        due("copy: still here", sides(x, 1), "13 14 15");
        due("copy over another", x.copy(0, 1), 5);
        due("copy: over", sides(x, 1), "3 4 5");
        due("copy to itself", x.copy(1, 1), 5);
        x.scale(0, 2);
        due("copy is apart", sides(x, 1), "3 4 5");
        for (int place : NO_PLACES) {
            refused("copy from no place", x, INDEX, () -> x.copy(place, 0));
            refused("copy to no place", x, INDEX, () -> x.copy(0, place));
            refused("copy of none to no place", x, INDEX, () -> x.copy(9, place));
        }
        refused("copy of none", x, NONE, () -> x.copy(9, 0));
    }

    private static void promise7Scale() {
        Trigonyard x = busy();
        due("scale", x.scale(0, 3), 15);
        due("scale: sides", sides(x, 0), "9 12 15");
        due("scale by 1", x.scale(0, 1), 15);
        due("scale by 64", x.scale(0, 64), 960);
        due("scale again", x.scale(0, 64), 61440);
        refused("scale too long", x, STATE, () -> x.scale(0, 2));
        x.put(5, 13107, 13107, 13107);
        due("scale to the greatest", x.scale(5, 5), 65535);
        x.put(5, 32768, 32768, 1);
        refused("scale to 65536", x, STATE, () -> x.scale(5, 2));
        for (int by : new int[] {0, -1, 65, Integer.MIN_VALUE, Integer.MAX_VALUE}) {
            refused("scale by " + by, x, ARGUMENT, () -> x.scale(0, by));
            refused("scale none by " + by, x, ARGUMENT, () -> x.scale(9, by));
            refused("scale no place by " + by, x, INDEX, () -> x.scale(16, by));
        }
        for (int place : NO_PLACES) {
            refused("scale no place", x, INDEX, () -> x.scale(place, 1));
        }
        refused("scale none", x, NONE, () -> x.scale(9, 64));
    }

    private static void promise8Reduce() {
        Trigonyard x = holding(12, 16, 20, 13, 14, 15, 65535, 65535, 65535, 6, 10, 15);
        due("reduce", x.reduce(0), 4);
        due("reduce: sides", sides(x, 0), "3 4 5");
        due("reduce again", x.reduce(0), 1);
        due("reduce by 1", x.reduce(1), 1);
        due("reduce by 1: sides", sides(x, 1), "13 14 15");
        due("reduce the greatest", x.reduce(2), 65535);
        due("reduce the greatest: sides", sides(x, 2), "1 1 1");
        due("reduce, two by two alone", x.reduce(3), 1);
        x.put(4, 6, 6, 3);
        due("reduce 3 6 6", x.reduce(4), 3);
        refused("reduce none", x, NONE, () -> x.reduce(9));
        for (int place : NO_PLACES) {
            refused("reduce no place", x, INDEX, () -> x.reduce(place));
        }
    }

    private static void promise9Join() {
        Trigonyard x = holding(9, 12, 15, 5, 12, 13, 3, 4, 5, 8, 15, 17, 15, 20, 25, 6, 8, 10);
        due("join both longer legs", x.join(0, 1, 9), 15);
        due("join: sides", sides(x, 9), "13 14 15");
        due("join longer and shorter", x.join(3, 4, 9), 28);
        due("join longer and shorter: sides", sides(x, 9), "17 25 28");
        due("join shorter and longer", x.join(4, 3, 9), 28);
        due("join shorter and longer: sides", sides(x, 9), "17 25 28");
        x.put(7, 15, 112, 113);
        due("join both shorter legs", x.join(4, 7, 9), 132);
        due("join both shorter legs: sides", sides(x, 9), "25 113 132");
        due("join along the longest of two", x.join(2, 2, 9), 6);
        due("join along the longest of two: sides", sides(x, 9), "5 5 6");
        due("join over itself", x.join(2, 2, 2), 6);
        due("join over itself: sides", sides(x, 2), "5 5 6");
        refused("join one not right", x, STATE, () -> x.join(2, 0, 9));
        refused("join other not right", x, STATE, () -> x.join(0, 2, 9));
        refused("join without a shared leg", x, STATE, () -> x.join(5, 0, 9));
        joinTooLong(x);
        for (int place : NO_PLACES) {
            refused("join no place", x, INDEX, () -> x.join(place, 0, 9));
            refused("join no other", x, INDEX, () -> x.join(0, place, 9));
            refused("join to no place", x, INDEX, () -> x.join(0, 0, place));
            refused("join none to no place", x, INDEX, () -> x.join(14, 14, place));
        }
        refused("join none", x, NONE, () -> x.join(14, 0, 9));
        refused("join with none", x, NONE, () -> x.join(0, 14, 9));
        refused("join not right with none", x, NONE, () -> x.join(2, 14, 9));
    }

    /** The sum of the two other legs is a side up to 65535, and refused above. */
    private static void joinTooLong(Trigonyard x) {
        x.put(10, 3380, 8463, 9113);
        x.put(11, 3380, 57072, 57172);
        due("join to 65535", x.join(10, 11, 9), 65535);
        due("join to 65535: sides", sides(x, 9), "9113 57172 65535");
        x.put(10, 1620, 10875, 10995);
        x.put(11, 1620, 54663, 54687);
        refused("join to 65538", x, STATE, () -> x.join(10, 11, 9));
        refused("join to 65538 over one of them", x, STATE, () -> x.join(10, 11, 10));
    }

    private static void promise10Kind() {
        Trigonyard x = holding(2, 3, 4, 3, 4, 5, 4, 5, 6, 361, 65160, 65161, 65535, 65535, 65535, 46340, 46340, 65535);
        due("kind obtuse", x.kind(0), -1);
        due("kind right", x.kind(1), 0);
        due("kind acute", x.kind(2), 1);
        due("kind long right", x.kind(3), 0);
        due("kind long acute", x.kind(4), 1);
        due("kind nearly right", x.kind(5), Long.signum(2L * 46340 * 46340 - 65535L * 65535));
        x.put(6, 65535, 40000, 30000);
        due("kind long obtuse", x.kind(6), -1);
        refused("kind none", x, NONE, () -> x.kind(9));
        for (int place : NO_PLACES) {
            refused("kind no place", x, INDEX, () -> x.kind(place));
        }
    }

    private static void promise11Angle() {
        Trigonyard x = holding(3, 4, 5, 3, 5, 7, 5, 7, 8, 6, 6, 6, 65535, 65535, 65535, 3, 7, 8);
        due("angles 3 4 5", angles(x, 0), "0 0 90");
        due("angles 3 5 7", angles(x, 1), "0 0 120");
        due("angles 5 7 8", angles(x, 2), "0 60 0");
        due("angles 6 6 6", angles(x, 3), "60 60 60");
        due("angles of the greatest", angles(x, 4), "60 60 60");
        due("angles 3 7 8", angles(x, 5), "0 60 0");
        for (int which : NO_SIDES) {
            refused("angle which " + which, x, INDEX, () -> x.angle(0, which));
            refused("angle which of none", x, INDEX, () -> x.angle(9, which));
        }
        for (int place : NO_PLACES) {
            refused("angle no place", x, INDEX, () -> x.angle(place, 0));
        }
        refused("angle none", x, NONE, () -> x.angle(9, 0));
    }

    private static String angles(Trigonyard x, int place) {
        return x.angle(place, 0) + " " + x.angle(place, 1) + " " + x.angle(place, 2);
    }

    private static void promise12AreaIsWhole() {
        Trigonyard x = holding(13, 14, 15, 2, 2, 3, 5, 5, 5, 361, 65160, 65161, 65535, 65535, 65535);
        due("areaIsWhole", x.areaIsWhole(0), true);
        due("areaIsWhole odd", x.areaIsWhole(1), false);
        due("areaIsWhole alike", x.areaIsWhole(2), false);
        due("areaIsWhole long", x.areaIsWhole(3), true);
        due("areaIsWhole greatest", x.areaIsWhole(4), false);
        // P is even here, S no square.
        x.put(5, 2, 3, 3);
        due("areaIsWhole even", x.areaIsWhole(5), false);
        refused("areaIsWhole none", x, NONE, () -> x.areaIsWhole(9));
        for (int place : NO_PLACES) {
            refused("areaIsWhole no place", x, INDEX, () -> x.areaIsWhole(place));
        }
    }

    private static void promise13Area() {
        Trigonyard x = holding(13, 14, 15, 3, 4, 5, 361, 65160, 65161, 2, 2, 3, 51, 52, 101);
        due("area", x.area(0), 84L);
        due("area right", x.area(1), 6L);
        due("area long", x.area(2), 361L * 65160 / 2);
        due("area flat", x.area(4), 510L);
        x.put(5, 54610, 54610, 65532);
        due("area great", x.area(5), 12L * 10922 * 10922);
        refused("area not whole", x, STATE, () -> x.area(3));
        refused("area none", x, NONE, () -> x.area(9));
        for (int place : NO_PLACES) {
            refused("area no place", x, INDEX, () -> x.area(place));
        }
    }

    private static void promise14Circle() {
        Trigonyard x = holding(13, 14, 15, 3, 4, 5, 2, 2, 3, 52, 56, 60, 13, 15, 4, 361, 65160, 65161);
        due("circle i", x.circle(0, 'i'), 4L);
        refused("circle o not whole", x, STATE, () -> x.circle(0, 'o'));
        due("circle i right", x.circle(1, 'i'), 1L);
        due("circle o right", x.circle(1, 'o'), 5L);
        due("circle o", x.circle(3, 'o'), 65L);
        // The area of 4, 13, 15 is 24, its circumference 32.
        refused("circle i not whole", x, STATE, () -> x.circle(4, 'i'));
        due("circle i long", x.circle(5, 'i'), 180L);
        due("circle o long", x.circle(5, 'o'), 65161L);
        refused("circle i without a whole area", x, STATE, () -> x.circle(2, 'i'));
        refused("circle o without a whole area", x, STATE, () -> x.circle(2, 'o'));
        for (char what : new char[] {'I', 'O', 'r', 0, 'j', (char) 65535}) {
            refused("circle what", x, ARGUMENT, () -> x.circle(0, what));
            refused("circle what of none", x, ARGUMENT, () -> x.circle(9, what));
            refused("circle what of no place", x, INDEX, () -> x.circle(16, what));
        }
        refused("circle none", x, NONE, () -> x.circle(9, 'i'));
        for (int place : NO_PLACES) {
            refused("circle no place", x, INDEX, () -> x.circle(place, 'i'));
        }
    }

    private static void promise15CompareAreas() {
        Trigonyard x = holding(5, 5, 8, 5, 5, 6, 3, 4, 5, 65535, 65535, 65535, 65534, 65535, 65535);
        due("compareAreas alike", x.compareAreas(0, 1), 0);
        due("compareAreas itself", x.compareAreas(0, 0), 0);
        due("compareAreas less", x.compareAreas(2, 0), -1);
        due("compareAreas more", x.compareAreas(0, 2), 1);
        due("compareAreas long", x.compareAreas(3, 4), 1);
        due("compareAreas long, less", x.compareAreas(4, 3), -1);
        due("compareAreas far", x.compareAreas(2, 3), -1);
        refused("compareAreas none", x, NONE, () -> x.compareAreas(9, 0));
        refused("compareAreas with none", x, NONE, () -> x.compareAreas(0, 9));
        for (int place : NO_PLACES) {
            refused("compareAreas no place", x, INDEX, () -> x.compareAreas(place, 9));
            refused("compareAreas no other", x, INDEX, () -> x.compareAreas(9, place));
        }
    }

    private static BigInteger bigS(long a, long b, long c) {
        BigInteger s = BigInteger.valueOf(a + b + c).multiply(BigInteger.valueOf(b + c - a));
        return s.multiply(BigInteger.valueOf(a + c - b)).multiply(BigInteger.valueOf(a + b - c));
    }

    private static final int[][] SOME = {{1, 1, 1}, {3, 4, 5}, {13, 14, 15}, {65535, 65535, 65535},
        {1, 65535, 65535}, {65534, 65535, 65535}, {361, 65160, 65161}, {46341, 46341, 65535}, {32768, 32768, 65535},
        {40000, 50000, 60000}, {49824, 49824, 49824}, {49825, 49825, 49825}};

    private static void promise16Product() {
        Trigonyard x = new Trigonyard();
        for (int[] t : SOME) {
            x.put(0, t[0], t[1], t[2]);
            due("product of " + sides(x, 0), x.product(0), bigS(t[0], t[1], t[2]).longValue());
        }
        refused("product none", x, NONE, () -> x.product(9));
        for (int place : NO_PLACES) {
            refused("product no place", x, INDEX, () -> x.product(place));
        }
    }

    private static void promise17Bits() {
        Trigonyard x = new Trigonyard();
        for (int[] t : SOME) {
            x.put(0, t[0], t[1], t[2]);
            due("bits of " + sides(x, 0), x.bits(0), bigS(t[0], t[1], t[2]).bitLength());
        }
        due("bits of the least", holding(1, 1, 1).bits(0), 2);
        due("bits of the greatest", holding(65535, 65535, 65535).bits(0), 66);
        refused("bits none", x, NONE, () -> x.bits(9));
        for (int place : NO_PLACES) {
            refused("bits no place", x, INDEX, () -> x.bits(place));
        }
    }

    private static void promise18Hypot() {
        Trigonyard x = new Trigonyard();
        for (int[] t : SOME) {
            x.put(0, t[0], t[1], t[2]);
            for (int one = 0; one < 3; one++) {
                for (int other = 0; other < 3; other++) {
                    double want = StrictMath.hypot(t[one], t[other]);
                    due("hypot of " + t[one] + " and " + t[other], x.hypot(0, one, other), want);
                }
            }
        }
        for (int which : NO_SIDES) {
            refused("hypot one", x, INDEX, () -> x.hypot(0, which, 0));
            refused("hypot other", x, INDEX, () -> x.hypot(0, 0, which));
            refused("hypot other of none", x, INDEX, () -> x.hypot(9, 0, which));
        }
        for (int place : NO_PLACES) {
            refused("hypot no place", x, INDEX, () -> x.hypot(place, 0, 0));
        }
        refused("hypot none", x, NONE, () -> x.hypot(9, 0, 0));
    }

    private static void promise19Root() {
        Trigonyard x = busy();
        long n = 1;
        for (int i = 0; i < 20000; i++) {
            n = (n * 6364136223846793005L + 1442695040888963407L) >>> 1;
            long number = n % (GREATEST + 1) >> (i % 30);
            due("root of " + number, new Trigonyard().root(number), StrictMath.sqrt((double) number));
        }
        for (long r = 0; r <= 92680; r += 7) {
            for (long number = Math.max(0, r * r - 1); number <= Math.min(GREATEST, r * r + 1); number++) {
                due("root of " + number, new Trigonyard().root(number), StrictMath.sqrt((double) number));
            }
        }
        due("root of the greatest", x.root(GREATEST), StrictMath.sqrt((double) GREATEST));
        for (long number : new long[] {-1, GREATEST + 1, Long.MIN_VALUE, Long.MAX_VALUE}) {
            refused("root of " + number, x, ARGUMENT, () -> x.root(number));
        }
    }

    private static void promise20Shape() {
        Trigonyard x = new Trigonyard();
        for (int[] t : SOME) {
            x.put(0, t[0], t[1], t[2]);
            due("shape of " + sides(x, 0), x.shape(0), (float) t[0] / (float) t[2]);
        }
        x.put(0, 1, 3, 3);
        due("shape of 1 3 3", x.shape(0), 0.33333334f);
        x.put(0, 5, 3, 4);
        due("shape of 3 4 5", x.shape(0), 0.6f);
        refused("shape none", x, NONE, () -> x.shape(9));
        for (int place : NO_PLACES) {
            refused("shape no place", x, INDEX, () -> x.shape(place));
        }
    }

    private static void promise21Mean() {
        Trigonyard x = new Trigonyard();
        due("mean of none", x.mean(), 0.0);
        x.put(3, 3, 4, 5);
        due("mean of one", x.mean(), 12.0);
        x.put(15, 13, 14, 15);
        x.put(0, 1, 1, 1);
        due("mean of three", x.mean(), 57.0 / 3.0);
        x.put(0, 1, 2, 2);
        x.put(1, 7, 8, 9);
        x.put(2, 7, 8, 9);
        due("mean of five", x.mean(), (12.0 + 42 + 5 + 24 + 24) / 5.0);
        x.take(15);
        x.take(1);
        due("mean afterwards", x.mean(), 41.0 / 3.0);
        for (int place = 0; place < 16; place++) {
            x.put(place, 65535, 65535, 65535);
        }
        due("mean of the greatest", x.mean(), 196605.0);
    }

    private static void promise22Euclid() {
        Trigonyard x = busy();
        due("euclid 2 1", x.euclid(15, 2, 1), 5);
        due("euclid 2 1: sides", sides(x, 15), "3 4 5");
        due("euclid 3 1", x.euclid(0, 3, 1), 10);
        due("euclid 3 1: sides", sides(x, 0), "6 8 10");
        due("euclid 4 1", x.euclid(0, 4, 1), 17);
        due("euclid 4 1: sides", sides(x, 0), "8 15 17");
        due("euclid 255 1", x.euclid(0, 255, 1), 65026);
        due("euclid 255 22", x.euclid(0, 255, 22), 65509);
        due("euclid 255 22: sides", sides(x, 0), "11220 64541 65509");
        refused("euclid 255 23", x, STATE, () -> x.euclid(0, 255, 23));
        refused("euclid 182 181", x, STATE, () -> x.euclid(9, 182, 181));
        due("euclid 181 180", x.euclid(9, 181, 180), 65161);
        int[][] none = {{1, 1}, {1, 0}, {2, 0}, {2, 2}, {2, 3}, {0, -1}, {-2, -3}, {256, 1}, {300, 299}, {10, -1},
            {Integer.MAX_VALUE, 1}, {5, Integer.MIN_VALUE}};
        for (int[] mn : none) {
            refused("euclid " + mn[0] + " " + mn[1], x, ARGUMENT, () -> x.euclid(0, mn[0], mn[1]));
        }
        for (int place : NO_PLACES) {
            refused("euclid no place", x, INDEX, () -> x.euclid(place, 1, 1));
        }
    }

    private static void promise23Step() {
        Trigonyard x = holding(3, 4, 5, 3, 4, 5, 3, 4, 5, 6, 8, 10, 13, 14, 15, 361, 65160, 65161);
        x.list('t', 50);
        x.sort('c');
        due("step a", x.step(0, 'a'), 13);
        due("step a: sides", sides(x, 0), "5 12 13");
        due("step b", x.step(1, 'b'), 29);
        due("step b: sides", sides(x, 1), "20 21 29");
        due("step c", x.step(2, 'c'), 17);
        due("step c: sides", sides(x, 2), "8 15 17");
        for (int place = 0; place < 3; place++) {
            due("step p", x.step(place, 'p'), 5);
            due("step p: sides", sides(x, place), "3 4 5");
        }
        for (char how : new char[] {'a', 'b', 'c'}) {
            x.put(7, 20, 21, 29);
            x.step(7, how);
            due("step from 20 21 29: kind", x.kind(7), 0);
            due("step from 20 21 29 and back", x.step(7, 'p'), 29);
            due("step from 20 21 29 and back: sides", sides(x, 7), "20 21 29");
        }
        refused("step p of 3 4 5", x, STATE, () -> x.step(0, 'p'));
        refused("step not primitive", x, STATE, () -> x.step(3, 'a'));
        refused("step p not primitive", x, STATE, () -> x.step(3, 'p'));
        refused("step not right", x, STATE, () -> x.step(4, 'b'));
        refused("step too long", x, STATE, () -> x.step(5, 'a'));
        refused("step c too long", x, STATE, () -> x.step(5, 'c'));
        due("step p of a long one", x.step(5, 'p'), 64441);
        for (char how : new char[] {'A', 'd', 'q', 0, '`', (char) 65535}) {
            refused("step how", x, ARGUMENT, () -> x.step(0, how));
            refused("step how of none", x, ARGUMENT, () -> x.step(9, how));
            refused("step how of no place", x, INDEX, () -> x.step(16, how));
        }
        refused("step none", x, NONE, () -> x.step(9, 'p'));
        for (int place : NO_PLACES) {
            refused("step no place", x, INDEX, () -> x.step(place, 'a'));
        }
    }

    private static void promise24Depth() {
        Trigonyard x = holding(3, 4, 5, 361, 65160, 65161, 6, 8, 10, 13, 14, 15);
        due("depth of 3 4 5", x.depth(0), 0);
        due("depth of the deepest", x.depth(1), 179);
        x.euclid(4, 254, 1);
        due("depth of 254 1", x.depth(4), 126);
        String way = "abccbaca";
        x.copy(0, 5);
        for (int i = 0; i < way.length() && x.side(5, 2) < 9000; i++) {
            x.step(5, way.charAt(i));
            due("depth after " + (i + 1), x.depth(5), i + 1);
        }
        due("depth leaves it", sides(x, 1), "361 65160 65161");
        refused("depth not primitive", x, STATE, () -> x.depth(2));
        refused("depth not right", x, STATE, () -> x.depth(3));
        refused("depth none", x, NONE, () -> x.depth(9));
        for (int place : NO_PLACES) {
            refused("depth no place", x, INDEX, () -> x.depth(place));
        }
    }

    private static void promise25Generator() {
        Trigonyard x = holding(6, 8, 10, 13, 14, 15);
        int[][] some = {{2, 1}, {3, 2}, {4, 1}, {4, 3}, {5, 2}, {254, 1}, {255, 22}, {181, 180}};
        for (int[] mn : some) {
            x.euclid(5, mn[0], mn[1]);
            due("generator m of " + sides(x, 5), x.generator(5, 'm'), mn[0]);
            due("generator n of " + sides(x, 5), x.generator(5, 'n'), mn[1]);
        }
        refused("generator not primitive", x, STATE, () -> x.generator(0, 'm'));
        refused("generator not right", x, STATE, () -> x.generator(1, 'n'));
        for (char which : new char[] {'M', 'N', 'o', 'l', 0, (char) 65535}) {
            refused("generator which", x, ARGUMENT, () -> x.generator(5, which));
            refused("generator which of none", x, ARGUMENT, () -> x.generator(9, which));
            refused("generator which of no place", x, INDEX, () -> x.generator(16, which));
        }
        refused("generator none", x, NONE, () -> x.generator(9, 'm'));
        for (int place : NO_PLACES) {
            refused("generator no place", x, INDEX, () -> x.generator(place, 'm'));
        }
    }

    private static int gcd(int a, int b) {
        return b == 0 ? a : gcd(b, a % b);
    }

    /** The list as it is due: by trying all sides. */
    private static String dueList(int bound) {
        StringBuilder all = new StringBuilder();
        for (int c = 1; c <= bound; c++) {
            for (int a = 1; a < c; a++) {
                int b = (int) Math.round(Math.sqrt(c * c - a * a));
                if (a < b && a * a + b * b == c * c && gcd(a, b) == 1) {
                    all.append(a).append(' ').append(b).append(' ').append(c).append(", ");
                }
            }
        }
        return all.toString();
    }

    private static String toldList(Trigonyard x, int count) {
        StringBuilder all = new StringBuilder();
        for (int number = 0; number < count; number++) {
            all.append(x.listed(number, 0)).append(' ').append(x.listed(number, 1)).append(' ');
            all.append(x.listed(number, 2)).append(", ");
        }
        return all.toString();
    }

    private static void promise26List() {
        for (char way : new char[] {'e', 't', 'h'}) {
            Trigonyard x = busy();
            for (int bound : new int[] {0, 1, 4, 5, 12, 13, 64, 65, 84, 85, 100, 257, 396, 397, 399, 400}) {
                Trigonyard y = busy();
                due("list " + way + " " + bound, toldList(y, y.list(way, bound)), dueList(bound));
            }
            due("list of 400", x.list(way, 400), 63);
            x.take(0);
            x.euclid(7, 9, 2);
            x.sort('s');
            due("list stays", toldList(x, 63), dueList(400));
            refused("listed behind it", x, INDEX, () -> x.listed(63, 0));
            due("list of 4", x.list(way, 4), 0);
            refused("listed of none", x, INDEX, () -> x.listed(0, 0));
            for (int bound : new int[] {-1, 401, Integer.MIN_VALUE, Integer.MAX_VALUE}) {
                refused("list " + bound, x, ARGUMENT, () -> x.list(way, bound));
            }
        }
        Trigonyard x = busy();
        for (char way : new char[] {'E', 'x', 'f', 0, 's', 'i', 'g', (char) 65535}) {
            refused("list way", x, ARGUMENT, () -> x.list(way, 50));
        }
    }

    private static void promise27Listed() {
        Trigonyard x = busy();
        due("listed first", x.listed(0, 0) + " " + x.listed(0, 1) + " " + x.listed(0, 2), "3 4 5");
        due("listed last", x.listed(15, 0) + " " + x.listed(15, 1) + " " + x.listed(15, 2), "65 72 97");
        for (int number : new int[] {-1, 16, 63, Integer.MIN_VALUE, Integer.MAX_VALUE}) {
            refused("listed number", x, INDEX, () -> x.listed(number, 0));
        }
        for (int which : NO_SIDES) {
            refused("listed which", x, INDEX, () -> x.listed(0, which));
        }
    }

    private static int rightOnesWithLongest(int c) {
        int count = 0;
        for (int a = 1; a < c; a++) {
            for (int b = a; b < c; b++) {
                count += a * a + b * b == c * c ? 1 : 0;
            }
        }
        return count;
    }

    private static int rightOnesWithLeg(long a) {
        int count = 0;
        // The longest side is at most half of a a + 1.
        for (long b = 1; 2 * b < a * a; b++) {
            long c = Math.round(Math.sqrt((double) (a * a + b * b)));
            count += a * a + b * b == c * c ? 1 : 0;
        }
        return count;
    }

    private static void promise28Counts() {
        Trigonyard x = busy();
        for (int n = 1; n <= 1000; n += n < 150 ? 1 : 17) {
            due("counts c " + n, new Trigonyard().counts('c', n), rightOnesWithLongest(n));
            due("counts l " + n, new Trigonyard().counts('l', n), rightOnesWithLeg(n));
        }
        due("counts c 1000", x.counts('c', 1000), 3);
        due("counts c 325", x.counts('c', 325), 7);
        due("counts l 960", x.counts('l', 960), 49);
        due("counts l 1", x.counts('l', 1), 0);
        due("counts l 2", x.counts('l', 2), 0);
        due("counts l 3", x.counts('l', 3), 1);
        due("counts l 997", x.counts('l', 997), 1);
        for (int n : new int[] {0, -1, 1001, Integer.MIN_VALUE, Integer.MAX_VALUE}) {
            refused("counts c " + n, x, ARGUMENT, () -> x.counts('c', n));
            refused("counts l " + n, x, ARGUMENT, () -> x.counts('l', n));
        }
        for (char how : new char[] {'C', 'L', 'd', 0, (char) 65535}) {
            refused("counts how", x, ARGUMENT, () -> x.counts(how, 5));
        }
    }

    private static String order(Trigonyard x, int count) {
        StringBuilder all = new StringBuilder();
        for (int number = 0; number < count; number++) {
            all.append(x.sorted(number)).append(' ');
        }
        return all.toString();
    }

    private static void promise29Sort() {
        Trigonyard x = new Trigonyard();
        due("sort none", x.sort('c'), 0);
        x.put(15, 5, 5, 6);
        x.put(1, 5, 5, 8);
        x.put(7, 3, 4, 5);
        x.put(4, 6, 6, 6);
        x.put(3, 6, 6, 6);
        x.put(9, 2, 8, 9);
        due("sort c", order(x, x.sort('c')), "7 3 4 15 1 9 ");
        due("sort p", order(x, x.sort('p')), "7 15 1 3 4 9 ");
        due("sort s", order(x, x.sort('s')), "7 9 1 15 3 4 ");
        x.put(9, 65535, 65535, 65535);
        x.put(3, 65534, 65535, 65535);
        due("sort s long", order(x, x.sort('s')), "7 1 15 4 3 9 ");
        x.take(7);
        x.scale(1, 64);
        x.list('e', 5);
        due("order stays", order(x, 6), "7 1 15 4 3 9 ");
        for (char by : new char[] {'C', 'a', 'x', 0, (char) 65535}) {
            refused("sort by", x, ARGUMENT, () -> x.sort(by));
        }
        for (int place = 0; place < 16; place++) {
            x.put(place, 17 - place, 17 - place, 17 - place);
        }
        for (char by : new char[] {'c', 'p', 's'}) {
            due("sort all " + by, order(x, x.sort(by)), "15 14 13 12 11 10 9 8 7 6 5 4 3 2 1 0 ");
        }
        for (int place = 0; place < 16; place++) {
            x.put(place, 2, 3, 4);
        }
        for (char by : new char[] {'c', 'p', 's'}) {
            due("sort alike " + by, order(x, x.sort(by)), "0 1 2 3 4 5 6 7 8 9 10 11 12 13 14 15 ");
        }
    }

    private static void promise30Sorted() {
        Trigonyard x = busy();
        due("sorted", order(x, 4), "0 3 2 1 ");
        for (int number : new int[] {-1, 4, 15, 16, Integer.MIN_VALUE, Integer.MAX_VALUE}) {
            refused("sorted number", x, INDEX, () -> x.sorted(number));
        }
        x.take(0);
        x.take(1);
        due("sorted stays", order(x, 4), "0 3 2 1 ");
        x.sort('p');
        refused("sorted behind", x, INDEX, () -> x.sorted(2));
    }

    private static void promise31Checksum() {
        Trigonyard x = new Trigonyard();
        due("checksum of nothing", x.checksum(), 0L);
        x.put(15, 3, 4, 5);
        due("checksum of the last place", x.checksum(), 3L * 4294967296L + 4 * 65536 + 5);
        x.put(14, 1, 1, 1);
        long h = 31L * (4294967296L + 65536 + 1) + 3L * 4294967296L + 4 * 65536 + 5;
        due("checksum of two places", x.checksum(), h);
        x.list('h', 13);
        h = (h * 31 + 5) * 31 + 13;
        due("checksum with a list", x.checksum(), h);
        x.sort('c');
        h = (h * 31 + 14) * 31 + 15;
        due("checksum with an order", x.checksum(), h);
        x.put(0, 65535, 65535, 65535);
        long power = 1;
        for (int i = 0; i < 19; i++) {
            power *= 31;
        }
        due("checksum wrapped", x.checksum(), h + power * (65535L * 4294967296L + 65535L * 65536 + 65535));
    }

    private static void promise32IsTrue() {
        Trigonyard x = new Trigonyard();
        for (int[] t : SOME) {
            x.put(0, t[0], t[1], t[2]);
            due("isTrue of " + sides(x, 0), x.isTrue(0), true);
        }
        for (int m = 2; m < 256; m++) {
            for (int n = 1; n < m && m * m + n * n <= 65535; n += 1 + m / 20) {
                Trigonyard y = new Trigonyard();
                y.euclid(1, m, n);
                due("isTrue of " + sides(y, 1), y.isTrue(1), true);
            }
        }
        for (int a = 1; a < 30; a++) {
            for (int b = a; b < 30; b++) {
                for (int c = b; c < a + b; c++) {
                    Trigonyard y = holding(a, b, c);
                    due("isTrue of " + sides(y, 0), y.isTrue(0), true);
                }
            }
        }
        refused("isTrue none", x, NONE, () -> x.isTrue(9));
        for (int place : NO_PLACES) {
            refused("isTrue no place", x, INDEX, () -> x.isTrue(place));
        }
    }

    private static void promise33RootIsTrue() {
        Trigonyard x = busy();
        for (long r = 0; r <= 92680; r += 31) {
            for (long number = Math.max(0, r * r - 1); number <= Math.min(GREATEST, r * r + 1); number++) {
                due("rootIsTrue of " + number, new Trigonyard().rootIsTrue(number), true);
            }
        }
        due("rootIsTrue of the greatest", x.rootIsTrue(GREATEST), true);
        for (long number : new long[] {-1, GREATEST + 1, Long.MIN_VALUE, Long.MAX_VALUE}) {
            refused("rootIsTrue of " + number, x, ARGUMENT, () -> x.rootIsTrue(number));
        }
    }

    private static void promise34HypotIsTrue() {
        Trigonyard x = busy();
        int[] some = {0, 1, 2, 3, 4, 5, 12, 255, 256, 8000, 15000, 32767, 32768, 46340, 46341, 65534, 65535};
        for (int one : some) {
            for (int other : some) {
                due("hypotIsTrue of " + one + " and " + other, x.hypotIsTrue(one, other), true);
            }
        }
        for (int number : new int[] {-1, 65536, Integer.MIN_VALUE, Integer.MAX_VALUE}) {
            refused("hypotIsTrue one", x, ARGUMENT, () -> x.hypotIsTrue(number, 0));
            refused("hypotIsTrue other", x, ARGUMENT, () -> x.hypotIsTrue(0, number));
        }
    }

    private static void promise35ListIsTrue() {
        Trigonyard x = busy();
        long before = x.checksum();
        for (int bound = 0; bound <= 400; bound += 4) {
            due("listIsTrue of " + bound, x.listIsTrue(bound), true);
        }
        due("listIsTrue leaves all", x.checksum(), before);
        due("listIsTrue leaves the list", toldList(x, 16), dueList(100));
        for (int bound : new int[] {-1, 401, Integer.MIN_VALUE, Integer.MAX_VALUE}) {
            refused("listIsTrue of " + bound, x, ARGUMENT, () -> x.listIsTrue(bound));
        }
    }

    private static void promise36CountIsTrue() {
        Trigonyard x = busy();
        for (int n = 1; n <= 1000; n++) {
            due("countIsTrue of " + n, new Trigonyard().countIsTrue(n), true);
        }
        for (int n : new int[] {0, -1, 1001, Integer.MIN_VALUE, Integer.MAX_VALUE}) {
            refused("countIsTrue of " + n, x, ARGUMENT, () -> x.countIsTrue(n));
        }
    }
}
