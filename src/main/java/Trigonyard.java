import java.util.NoSuchElementException;

/** Triangles with whole sides. The document (DOC.md) says in numbered promises what each call does. */
public final class Trigonyard {
    private static final int PLACES = 16;
    private static final int SIDES = 3;
    private static final int GREATEST_SIDE = 65535;
    private static final int GREATEST_TIMES = 64;
    private static final int GREATEST_M = 255;
    private static final long GREATEST_NUMBER = 8589672450L;
    private static final int GREATEST_BOUND = 400;
    private static final int GREATEST_LENGTH = 1000;

    private final Triangle[] triangles = new Triangle[PLACES];
    private final Primitives found = new Primitives();
    // Rows for listIsTrue alone: it must leave the list as it is.
    private final Primitives trialOne = new Primitives();
    private final Primitives trialTwo = new Primitives();
    private final int[] order = new int[PLACES];
    private int ordered = 0;

    public Trigonyard() {
    }

    // Triangles

    public int put(int place, int a, int b, int c)
            throws IndexOutOfBoundsException, IllegalArgumentException, IllegalStateException {
        requirePlace(place);
        if (!isSide(a) || !isSide(b) || !isSide(c)) {
            throw new IllegalArgumentException("a side is out of range");
        }
        if (a >= b + c || b >= a + c || c >= a + b) {
            throw new IllegalStateException("a side is not less than the sum of the two others");
        }
        hold(place, new Triangle(a, b, c));
        return countHeld();
    }

    public int take(int place) throws IndexOutOfBoundsException, NoSuchElementException {
        heldAt(place);
        hold(place, null);
        return countHeld();
    }

    public boolean isHeld(int place) throws IndexOutOfBoundsException {
        requirePlace(place);
        return triangleAt(place) != null;
    }

    public int side(int place, int which) throws IndexOutOfBoundsException, NoSuchElementException {
        requirePlace(place);
        requireSide(which);
        return heldAt(place).length(which);
    }

    public int copy(int place, int other) throws IndexOutOfBoundsException, NoSuchElementException {
        requirePlace(place);
        requirePlace(other);
        hold(other, heldAt(place));
        return countHeld();
    }

    public int scale(int place, int by)
            throws IndexOutOfBoundsException, IllegalArgumentException, NoSuchElementException, IllegalStateException {
        requirePlace(place);
        if (by < 1 || by > GREATEST_TIMES) {
            throw new IllegalArgumentException("the number is out of range");
        }
        Triangle held = heldAt(place);
        return holdIfShortEnough(place, by * held.a, by * held.b, by * held.c);
    }

    public int reduce(int place) throws IndexOutOfBoundsException, NoSuchElementException {
        Triangle held = heldAt(place);
        int divisor = held.commonDivisor();
        if (divisor > 1) {
            hold(place, new Triangle(held.a / divisor, held.b / divisor, held.c / divisor));
        }
        return divisor;
    }

    public int join(int place, int other, int to)
            throws IndexOutOfBoundsException, NoSuchElementException, IllegalStateException {
        requirePlace(place);
        requirePlace(other);
        requirePlace(to);
        Triangle first = heldAt(place);
        Triangle second = heldAt(other);
        if (first.sharpness() != 0 || second.sharpness() != 0) {
            throw new IllegalStateException("one of the two is not right");
        }
        int shared = first.hasLeg(second.b) ? second.b : second.a;
        if (!first.hasLeg(shared)) {
            throw new IllegalStateException("they have no leg of the same length");
        }
        return holdIfShortEnough(to, first.c, second.c, first.otherLeg(shared) + second.otherLeg(shared));
    }

    // Numbers

    public int kind(int place) throws IndexOutOfBoundsException, NoSuchElementException {
        return heldAt(place).sharpness();
    }

    public int angle(int place, int which) throws IndexOutOfBoundsException, NoSuchElementException {
        requirePlace(place);
        requireSide(which);
        return heldAt(place).degreesOpposite(which);
    }

    public boolean areaIsWhole(int place) throws IndexOutOfBoundsException, NoSuchElementException {
        return heldAt(place).wholeArea() > 0;
    }

    public long area(int place) throws IndexOutOfBoundsException, NoSuchElementException, IllegalStateException {
        long told = heldAt(place).wholeArea();
        if (told == 0) {
            throw new IllegalStateException("the area is no whole number");
        }
        return told;
    }

    public long circle(int place, char what)
            throws IndexOutOfBoundsException, IllegalArgumentException, NoSuchElementException, IllegalStateException {
        requirePlace(place);
        if (what != 'i' && what != 'o') {
            throw new IllegalArgumentException("there is nothing such");
        }
        Triangle held = heldAt(place);
        long told = what == 'i' ? held.innerRadius() : held.outerDiameter();
        if (told == 0) {
            throw new IllegalStateException("the length is no whole number");
        }
        return told;
    }

    public int compareAreas(int place, int other) throws IndexOutOfBoundsException, NoSuchElementException {
        requirePlace(place);
        requirePlace(other);
        Triangle first = heldAt(place);
        return first.comparedByArea(heldAt(other));
    }

    public long product(int place) throws IndexOutOfBoundsException, NoSuchElementException {
        return heldAt(place).wrappedS();
    }

    public int bits(int place) throws IndexOutOfBoundsException, NoSuchElementException {
        return heldAt(place).digitsOfS();
    }

    public double hypot(int place, int one, int other) throws IndexOutOfBoundsException, NoSuchElementException {
        requirePlace(place);
        requireSide(one);
        requireSide(other);
        Triangle held = heldAt(place);
        return Numbers.nearestHypot(held.length(one), held.length(other));
    }

    public double root(long number) throws IllegalArgumentException {
        requireNumber(number);
        return Numbers.nearestRoot(number);
    }

    public float shape(int place) throws IndexOutOfBoundsException, NoSuchElementException {
        Triangle held = heldAt(place);
        return (float) held.a / (float) held.c;
    }

    public double mean() {
        int count = countHeld();
        if (count == 0) {
            return 0.0;
        }
        int sum = 0;
        for (int place = 0; place < PLACES; place++) {
            Triangle held = triangleAt(place);
            sum += held == null ? 0 : held.around();
        }
        return (double) sum / (double) count;
    }

    // Right ones

    public int euclid(int place, int m, int n)
            throws IndexOutOfBoundsException, IllegalArgumentException, IllegalStateException {
        requirePlace(place);
        if (m < 2 || m > GREATEST_M || n < 1 || n >= m) {
            throw new IllegalArgumentException("m or n is out of range");
        }
        return holdIfShortEnough(place, m * m - n * n, 2 * m * n, m * m + n * n);
    }

    public int step(int place, char how)
            throws IndexOutOfBoundsException, IllegalArgumentException, NoSuchElementException, IllegalStateException {
        requirePlace(place);
        if (how != 'a' && how != 'b' && how != 'c' && how != 'p') {
            throw new IllegalArgumentException("there is no such how");
        }
        Triangle held = primitiveAt(place);
        int odd = held.oddLeg();
        int even = held.evenLeg();
        if (how != 'p') {
            return holdIfShortEnough(place, Steps.oddLeg(how, odd, even, held.c),
                    Steps.evenLeg(how, odd, even, held.c), Steps.longest(how, odd, even, held.c));
        }
        if (held.c == Steps.FIRST_LONGEST) {
            throw new IllegalStateException("3, 4, 5 comes of none");
        }
        return holdIfShortEnough(place, Math.abs(Steps.backOdd(odd, even, held.c)),
                Math.abs(Steps.backEven(odd, even, held.c)), Steps.backLongest(odd, even, held.c));
    }

    public int depth(int place) throws IndexOutOfBoundsException, NoSuchElementException, IllegalStateException {
        Triangle held = primitiveAt(place);
        return Steps.stepsFromFirst(held.oddLeg(), held.evenLeg(), held.c);
    }

    public int generator(int place, char which)
            throws IndexOutOfBoundsException, IllegalArgumentException, NoSuchElementException, IllegalStateException {
        requirePlace(place);
        if (which != 'm' && which != 'n') {
            throw new IllegalArgumentException("there is no such which");
        }
        Triangle held = primitiveAt(place);
        int square = which == 'm' ? (held.c + held.oddLeg()) / 2 : (held.c - held.oddLeg()) / 2;
        return (int) Numbers.wholeRoot(square);
    }

    public int list(char way, int bound) throws IllegalArgumentException {
        if (way != 'e' && way != 't' && way != 'h') {
            throw new IllegalArgumentException("there is no such way");
        }
        requireBound(bound);
        found.fill(way, bound);
        return found.count;
    }

    public int listed(int number, int which) throws IndexOutOfBoundsException {
        if (number < 0 || number >= found.count) {
            throw new IndexOutOfBoundsException("there is no such number");
        }
        requireSide(which);
        return found.length(number, which);
    }

    public int counts(char how, int number) throws IllegalArgumentException {
        if (how != 'c' && how != 'l') {
            throw new IllegalArgumentException("there is no such how");
        }
        requireLength(number);
        return how == 'c' ? Counting.asLongest(number) : Counting.asLeg(number);
    }

    // Order

    public int sort(char by) throws IllegalArgumentException {
        if (by != 'c' && by != 'p' && by != 's') {
            throw new IllegalArgumentException("there is no such by");
        }
        ordered = 0;
        for (int place = 0; place < PLACES; place++) {
            if (triangleAt(place) != null) {
                putInOrder(place, by);
            }
        }
        return ordered;
    }

    public int sorted(int number) throws IndexOutOfBoundsException {
        if (number < 0 || number >= ordered || number >= PLACES) {
            throw new IndexOutOfBoundsException("there is none");
        }
        return order[number];
    }

    public long checksum() {
        long h = 0;
        for (int place = 0; place < PLACES; place++) {
            Triangle held = triangleAt(place);
            h = 31 * h + (held == null ? 0 : held.code());
        }
        for (int number = 0; number < found.count; number++) {
            h = 31 * h + found.length(number, SIDES - 1);
        }
        for (int number = 0; number < ordered && number < PLACES; number++) {
            h = 31 * h + order[number];
        }
        return h;
    }

    // The theorem

    public boolean isTrue(int place) throws IndexOutOfBoundsException, NoSuchElementException {
        return Theorem.ofTriangle(heldAt(place));
    }

    public boolean rootIsTrue(long number) throws IllegalArgumentException {
        requireNumber(number);
        return Theorem.ofRoot(number);
    }

    public boolean hypotIsTrue(int one, int other) throws IllegalArgumentException {
        if (one < 0 || one > GREATEST_SIDE || other < 0 || other > GREATEST_SIDE) {
            throw new IllegalArgumentException("one is out of range");
        }
        return Theorem.ofHypot(one, other);
    }

    public boolean listIsTrue(int bound) throws IllegalArgumentException {
        requireBound(bound);
        trialOne.fill('e', bound);
        trialTwo.fill('t', bound);
        if (!trialOne.areEachOnce() || !trialOne.areThoseOf(trialTwo)) {
            return false;
        }
        trialTwo.fill('h', bound);
        return trialOne.areThoseOf(trialTwo);
    }

    public boolean countIsTrue(int number) throws IllegalArgumentException {
        requireLength(number);
        return Theorem.ofCounts(number);
    }

    // What the calls share

    private static boolean isPlace(int place) {
        return place >= 0 && place < PLACES;
    }

    private static boolean isSide(int length) {
        return length >= 1 && length <= GREATEST_SIDE;
    }

    private static void requirePlace(int place) {
        if (!isPlace(place)) {
            throw new IndexOutOfBoundsException("there is no such place");
        }
    }

    private static void requireSide(int which) {
        if (which < 0 || which >= SIDES) {
            throw new IndexOutOfBoundsException("there is no such side");
        }
    }

    private static void requireNumber(long number) {
        if (number < 0 || number > GREATEST_NUMBER) {
            throw new IllegalArgumentException("the number is out of range");
        }
    }

    private static void requireBound(int bound) {
        if (bound < 0 || bound > GREATEST_BOUND) {
            throw new IllegalArgumentException("the bound is out of range");
        }
    }

    private static void requireLength(int number) {
        if (number < 1 || number > GREATEST_LENGTH) {
            throw new IllegalArgumentException("the length is out of range");
        }
    }

    private Triangle triangleAt(int place) {
        return isPlace(place) ? triangles[place] : null;
    }

    private Triangle heldAt(int place) {
        requirePlace(place);
        Triangle held = triangleAt(place);
        if (held == null) {
            throw new NoSuchElementException("none is held there");
        }
        return held;
    }

    private Triangle primitiveAt(int place) {
        Triangle held = heldAt(place);
        if (!held.isPrimitive()) {
            throw new IllegalStateException("it is not primitive");
        }
        return held;
    }

    private void hold(int place, Triangle triangle) {
        if (isPlace(place)) {
            triangles[place] = triangle;
        }
    }

    /** Holds the triangle of three sides and returns its longest one. */
    private int holdIfShortEnough(int place, int one, int two, int three) {
        if (!isSide(one) || !isSide(two) || !isSide(three)) {
            throw new IllegalStateException("a side would be above 65535");
        }
        Triangle made = new Triangle(one, two, three);
        hold(place, made);
        return made.c;
    }

    private int countHeld() {
        int count = 0;
        for (int place = 0; place < PLACES; place++) {
            count += triangleAt(place) == null ? 0 : 1;
        }
        return count;
    }

    private void putInOrder(int place, char by) {
        int at = ordered;
        // Only what is more makes room: those alike stay by the numbers of their places.
        for (; at > 0 && at < PLACES && isLess(place, order[at - 1], by); at--) {
            order[at] = order[at - 1];
        }
        if (at >= 0 && at < PLACES) {
            order[at] = place;
            ordered++;
        }
    }

    private boolean isLess(int place, int other, char by) {
        Triangle first = triangleAt(place);
        Triangle second = triangleAt(other);
        if (first == null || second == null) {
            return false;
        }
        if (by == 'c') {
            return first.c < second.c;
        }
        return by == 'p' ? first.around() < second.around() : first.comparedByArea(second) < 0;
    }

    /** Arithmetic with whole numbers, and what StrictMath tells of them. */
    private static final class Numbers {
        // S has up to 66 digits, a long only 63: the lowest 18 digits of a product stand apart from those above.
        static final int LOW_DIGITS = 18;
        static final long LOW_MASK = (1L << LOW_DIGITS) - 1;
        // An Euclidean division takes less than 60 turns for two numbers below 2 to the 36th.
        static final int DIVISIONS = 100;
        static final int DOUBLE_DIGITS = 53;

        private Numbers() {
        }

        /** The product of two numbers divided by 2 to the 18th; exact up to 36 digits each, or 48 and 18. */
        static long high(long one, long other) {
            return (one >> LOW_DIGITS) * other + (((one & LOW_MASK) * other) >> LOW_DIGITS);
        }

        static long low(long one, long other) {
            return (one * other) & LOW_MASK;
        }

        static int digits(long number) {
            int count = 0;
            for (long rest = number; rest > 0 && count < 64; rest >>= 1) {
                count++;
            }
            return count;
        }

        static long commonDivisor(long one, long other) {
            long divisor = one;
            long rest = other;
            for (int turn = 0; turn < DIVISIONS && rest != 0; turn++) {
                long next = divisor % rest;
                divisor = rest;
                rest = next;
            }
            return divisor;
        }

        /** The quotient if it is a whole number, otherwise 0. */
        static long wholeQuotient(long number, long by) {
            return by > 0 && number % by == 0 ? number / by : 0;
        }

        /** The greatest whole number whose square is not above a number of up to 36 digits. */
        static long wholeRoot(long number) {
            long root = 0;
            for (long digit = 1L << 17; digit > 0; digit >>= 1) {
                long more = root + digit;
                if (more * more <= number) {
                    root = more;
                }
            }
            return root;
        }

        static boolean isSquare(long number) {
            long root = wholeRoot(number);
            return root * root == number;
        }

        /**
         * The double that is nearest to the square root of a number of up to 34 digits: what StrictMath's sqrt()
         * tells. The root is taken digit by digit, up to one more than a double holds, by which it is rounded. It
         * never lies in the middle between two doubles: its square would have over 100 digits then.
         */
        static double nearestRoot(long number) {
            long root = 0;
            long rest = 0;
            int behindPoint = 0;
            for (int pair = 16; pair > -64 && (root >> DOUBLE_DIGITS) == 0; pair--) {
                rest = 4 * rest + (pair < 0 ? 0 : (number >> (2 * pair)) & 3);
                root = 2 * root;
                if (rest > 2 * root) {
                    rest -= 2 * root + 1;
                    root++;
                }
                behindPoint += pair < 0 ? 1 : 0;
            }
            if (root == 0) {
                return 0.0;
            }
            return (double) ((root + 1) >> 1) / (double) (1L << (behindPoint - 1));
        }

        /**
         * hypot() of two numbers up to 65535. The JDK's own makes the sum of the squares in one of two ways, by how
         * near they are to each other, and takes its sqrt(); both sums are exact for numbers of so few digits.
         */
        static double nearestHypot(int one, int other) {
            double more = (double) Math.max(one, other);
            double less = (double) Math.min(one, other);
            double gap = more - less;
            double sum = gap > less ? more * more + less * less : gap * gap + 2.0 * more * less;
            return nearestRoot((long) sum);
        }

        static boolean isWhole(double number) {
            return number == (double) (long) number;
        }
    }

    /** A triangle; it never changes. Lengths and areas that are no whole numbers are told as 0. */
    private static final class Triangle {
        final int a;
        final int b;
        final int c;
        // S in two parts, see Numbers.LOW_DIGITS.
        final long highS;
        final long lowS;

        Triangle(int one, int two, int three) {
            a = Math.min(one, Math.min(two, three));
            c = Math.max(one, Math.max(two, three));
            b = one + two + three - a - c;
            long outer = outerFactor(a, b, c);
            long inner = innerFactor(a, b, c);
            highS = Numbers.high(outer, inner);
            lowS = Numbers.low(outer, inner);
        }

        /** P times P - 2 c, of up to 35 digits. */
        private static long outerFactor(long a, long b, long c) {
            return (a + b + c) * (a + b - c);
        }

        /** P - 2 a times P - 2 b, of up to 32 digits. */
        private static long innerFactor(long a, long b, long c) {
            return (b + c - a) * (a + c - b);
        }

        int length(int which) {
            if (which == 0) {
                return a;
            }
            return which == 1 ? b : c;
        }

        int around() {
            return a + b + c;
        }

        int commonDivisor() {
            return (int) Numbers.commonDivisor(Numbers.commonDivisor(a, b), c);
        }

        long code() {
            return 4294967296L * a + 65536L * b + c;
        }

        /** The sum of the squares of two sides less the square of the one that is told. */
        long squaresBeside(int which) {
            long opposite = length(which);
            return (long) a * a + (long) b * b + (long) c * c - 2 * opposite * opposite;
        }

        /** -1 obtuse, 0 right, 1 acute. */
        int sharpness() {
            return Long.compare(squaresBeside(2), 0);
        }

        int degreesOpposite(int which) {
            long beside = squaresBeside(which);
            long others = (long) length(which == 0 ? 1 : 0) * length(which == 2 ? 1 : 2);
            if (beside == 0) {
                return 90;
            }
            if (beside == others) {
                return 60;
            }
            return beside == -others ? 120 : 0;
        }

        boolean hasLeg(int length) {
            return a == length || b == length;
        }

        int otherLeg(int leg) {
            return a == leg ? b : a;
        }

        boolean isPrimitive() {
            return sharpness() == 0 && commonDivisor() == 1;
        }

        int oddLeg() {
            return (a & 1) == 1 ? a : b;
        }

        int evenLeg() {
            return (a & 1) == 1 ? b : a;
        }

        long wrappedS() {
            return outerFactor(a, b, c) * innerFactor(a, b, c);
        }

        int digitsOfS() {
            return highS == 0 ? Numbers.digits(lowS) : Numbers.LOW_DIGITS + Numbers.digits(highS);
        }

        int comparedByArea(Triangle other) {
            return highS == other.highS ? Long.compare(lowS, other.lowS) : Long.compare(highS, other.highS);
        }

        /** The root of S, or 0; a product is a square just if both factors are, without what they share. */
        long wholeRootOfS() {
            long outer = outerFactor(a, b, c);
            long inner = innerFactor(a, b, c);
            long shared = Numbers.commonDivisor(outer, inner);
            long outerRest = Numbers.wholeQuotient(outer, shared);
            long innerRest = Numbers.wholeQuotient(inner, shared);
            if (!Numbers.isSquare(outerRest) || !Numbers.isSquare(innerRest)) {
                return 0;
            }
            return shared * Numbers.wholeRoot(outerRest) * Numbers.wholeRoot(innerRest);
        }

        long wholeArea() {
            return Numbers.wholeQuotient(wholeRootOfS(), 4);
        }

        long innerRadius() {
            return Numbers.wholeQuotient(wholeRootOfS(), 2L * around());
        }

        long outerDiameter() {
            return Numbers.wholeQuotient(2L * a * b * c, wholeRootOfS());
        }
    }

    /** Steps from a primitive triangle to another one, by its odd leg x, its even leg y and its longest side z. */
    private static final class Steps {
        static final int FIRST_LONGEST = 5;
        // Far above the 179 steps that are the most up to 65535.
        static final int MOST = 1000;

        private Steps() {
        }

        /** The three steps are one, but for the signs of the legs. */
        private static int signedOdd(char how, int x) {
            return how == 'c' ? -x : x;
        }

        private static int signedEven(char how, int y) {
            return how == 'a' ? -y : y;
        }

        static int oddLeg(char how, int x, int y, int z) {
            return signedOdd(how, x) + 2 * signedEven(how, y) + 2 * z;
        }

        static int evenLeg(char how, int x, int y, int z) {
            return 2 * signedOdd(how, x) + signedEven(how, y) + 2 * z;
        }

        static int longest(char how, int x, int y, int z) {
            return 2 * signedOdd(how, x) + 2 * signedEven(how, y) + 3 * z;
        }

        /** The odd leg of that of which it comes; below 0 if it comes by c. */
        static int backOdd(int x, int y, int z) {
            return x + 2 * y - 2 * z;
        }

        /** The even leg of that of which it comes; below 0 if it comes by a. */
        static int backEven(int x, int y, int z) {
            return 2 * x + y - 2 * z;
        }

        static int backLongest(int x, int y, int z) {
            return 3 * z - 2 * x - 2 * y;
        }

        /** By how many steps it comes of 3, 4, 5, each of them the only one that leads there; otherwise -1. */
        static int stepsFromFirst(int oddLeg, int evenLeg, int longest) {
            int x = oddLeg;
            int y = evenLeg;
            int z = longest;
            int steps = 0;
            for (; steps < MOST && z > FIRST_LONGEST; steps++) {
                int odd = backOdd(x, y, z);
                int even = backEven(x, y, z);
                if (odd == 0 || even == 0 || (odd < 0 && even < 0)) {
                    return -1;
                }
                z = backLongest(x, y, z);
                x = Math.abs(odd);
                y = Math.abs(even);
            }
            return x == 3 && y == 4 && z == FIRST_LONGEST ? steps : -1;
        }
    }

    /** The primitive triangles up to a bound, in their order. */
    private static final class Primitives {
        // There are 63 up to 400, the greatest bound.
        static final int ROOM = 64;
        static final int SIDE_DIGITS = 9;
        static final int SIDE_MASK = (1 << SIDE_DIGITS) - 1;

        // Longest, shortest and middle side in one number each: so they stand in the order that is asked for.
        final int[] keys = new int[ROOM];
        int count = 0;

        Primitives() {
        }

        void fill(char way, int bound) {
            count = 0;
            if (way == 'e') {
                fillByNumbers(bound);
            } else if (way == 't') {
                fillBySteps(bound);
            } else {
                fillByHypot(bound);
            }
        }

        int length(int number, int which) {
            if (number < 0 || number >= count || number >= ROOM) {
                return 0;
            }
            int key = keys[number];
            if (which == 0) {
                return (key >> SIDE_DIGITS) & SIDE_MASK;
            }
            return which == 1 ? key & SIDE_MASK : key >> (2 * SIDE_DIGITS);
        }

        boolean areEachOnce() {
            for (int number = 1; number < count && number < ROOM; number++) {
                if (keys[number - 1] >= keys[number]) {
                    return false;
                }
            }
            return true;
        }

        boolean areThoseOf(Primitives other) {
            if (count != other.count) {
                return false;
            }
            for (int number = 0; number < count && number < ROOM; number++) {
                if (keys[number] != other.keys[number]) {
                    return false;
                }
            }
            return true;
        }

        private void add(int leg, int otherLeg, int longest) {
            int legs = (Math.min(leg, otherLeg) << SIDE_DIGITS) | Math.max(leg, otherLeg);
            int key = (longest << (2 * SIDE_DIGITS)) | legs;
            int at = count;
            for (; at > 0 && at < ROOM && keys[at - 1] > key; at--) {
                keys[at] = keys[at - 1];
            }
            if (at >= 0 && at < ROOM) {
                keys[at] = key;
                count++;
            }
        }

        private void fillByNumbers(int bound) {
            for (int m = 2; m * m <= bound && m <= GREATEST_M; m++) {
                for (int n = 1; n < m && m * m + n * n <= bound; n++) {
                    if ((m + n) % 2 == 1 && Numbers.commonDivisor(m, n) == 1) {
                        add(m * m - n * n, 2 * m * n, m * m + n * n);
                    }
                }
            }
        }

        private void fillBySteps(int bound) {
            if (bound < Steps.FIRST_LONGEST) {
                return;
            }
            add(3, 4, Steps.FIRST_LONGEST);
            // A step makes the longest side longer: what it finds comes later in the list, and is reached in turn.
            for (int number = 0; number < count && number < ROOM; number++) {
                addStepsOf(number, bound);
            }
        }

        private void addStepsOf(int number, int bound) {
            int shortest = length(number, 0);
            int middle = length(number, 1);
            int z = length(number, 2);
            int x = (shortest & 1) == 1 ? shortest : middle;
            int y = (shortest & 1) == 1 ? middle : shortest;
            addStep('a', x, y, z, bound);
            addStep('b', x, y, z, bound);
            addStep('c', x, y, z, bound);
        }

        private void addStep(char how, int x, int y, int z, int bound) {
            int longest = Steps.longest(how, x, y, z);
            if (longest <= bound) {
                add(Steps.oddLeg(how, x, y, z), Steps.evenLeg(how, x, y, z), longest);
            }
        }

        /** Two legs that are both odd, or both even, make no primitive one. */
        private void fillByHypot(int bound) {
            for (int odd = 1; odd < bound; odd += 2) {
                addByHypot(odd, bound);
            }
        }

        private void addByHypot(int odd, int bound) {
            int longest = odd;
            for (int even = 2; even < bound; even += 2) {
                int sum = odd * odd + even * even;
                while (longest <= bound && longest * longest < sum) {
                    longest++;
                }
                if (longest > bound) {
                    return;
                }
                // hypot() is a whole number only where the sum is a square: it need not be asked elsewhere.
                if (longest * longest == sum && Numbers.nearestHypot(odd, even) == (double) longest
                        && Numbers.commonDivisor(odd, even) == 1) {
                    add(odd, even, longest);
                }
            }
        }
    }

    /** How many right triangles have a side of a length. */
    private static final class Counting {
        private Counting() {
        }

        static int asLongest(int number) {
            int count = 0;
            int shorter = 1;
            int longer = number - 1;
            for (int turn = 0; turn < number && shorter < longer; turn++) {
                int beside = shorter * shorter + longer * longer - number * number;
                count += beside == 0 ? 1 : 0;
                if (beside <= 0) {
                    shorter++;
                } else {
                    longer--;
                }
            }
            return count;
        }

        /** The square of a leg is the product of the sum and the difference of the two other sides. */
        static int asLeg(int number) {
            int count = 0;
            for (int difference = 1; difference < number; difference++) {
                int sum = (int) Numbers.wholeQuotient(number * number, difference);
                if (sum > 0 && (sum - difference) % 2 == 0) {
                    count++;
                }
            }
            return count;
        }

        /** The product of 2 k + 1 over all primes, k telling how often the prime divides the number. */
        static int productOverPrimes(int number, boolean onlyThoseThatLeaveOne) {
            int product = 1;
            int rest = number;
            for (int prime = 2; prime <= number && rest > 1; prime++) {
                int times = 0;
                for (; times < 32 && rest % prime == 0; times++) {
                    rest /= prime;
                }
                if (!onlyThoseThatLeaveOne || prime % 4 == 1) {
                    product *= 2 * times + 1;
                }
            }
            return product;
        }
    }

    /** The theorem's parts, each tried on what is told. */
    private static final class Theorem {
        private Theorem() {
        }

        static boolean ofRoot(long number) {
            long root = Numbers.wholeRoot(number);
            double told = Numbers.nearestRoot(number);
            boolean isGreatest = root * root <= number && (root + 1) * (root + 1) > number;
            boolean isWholeForSquares = Numbers.isWhole(told) == (root * root == number);
            return isGreatest && isWholeForSquares && (long) told == root;
        }

        static boolean ofHypot(int one, int other) {
            long sum = (long) one * one + (long) other * other;
            double told = Numbers.nearestHypot(one, other);
            return told == Numbers.nearestRoot(sum) && told == Numbers.nearestHypot(other, one)
                    && Numbers.isWhole(told) == Numbers.isSquare(sum);
        }

        static boolean ofTriangle(Triangle t) {
            boolean isSo = ofHypot(t.a, t.b) && ofHypot(t.a, t.c) && ofHypot(t.b, t.c) && ofSharpness(t) && ofS(t);
            if (!isSo || t.sharpness() != 0) {
                return isSo;
            }
            return ofRight(t) && (!t.isPrimitive() || ofPrimitive(t));
        }

        static boolean ofCounts(int number) {
            int asLongest = Counting.productOverPrimes(number, true);
            int asLeg = Counting.productOverPrimes(number % 2 == 0 ? number / 2 : number, false);
            return Counting.asLongest(number) == (asLongest - 1) / 2 && Counting.asLeg(number) == (asLeg - 1) / 2;
        }

        private static boolean ofSharpness(Triangle t) {
            double told = Numbers.nearestHypot(t.a, t.b);
            if (told < (double) t.c) {
                return t.sharpness() == -1;
            }
            return told > (double) t.c ? t.sharpness() == 1 : t.sharpness() == 0;
        }

        private static boolean ofS(Triangle t) {
            long root = t.wholeRootOfS();
            boolean isSoForSquares = root == 0 || (t.around() % 2 == 0 && root % 4 == 0 && root / 4 % 6 == 0);
            return (t.highS > 0 || t.lowS > 0) && isSIfSquaresAreTaken(t) && isSBelowSides(t) && isSoForSquares;
        }

        private static boolean isSIfSquaresAreTaken(Triangle t) {
            long twice = 2L * t.a * t.b;
            long beside = Math.abs(t.squaresBeside(2));
            long low = t.lowS + Numbers.low(beside, beside);
            long high = t.highS + Numbers.high(beside, beside) + (low >> Numbers.LOW_DIGITS);
            return high == Numbers.high(twice, twice) && (low & Numbers.LOW_MASK) == Numbers.low(twice, twice);
        }

        private static boolean isSBelowSides(Triangle t) {
            long sides = (long) t.a * t.b * t.c;
            long high = Numbers.high(sides, t.around());
            long low = Numbers.low(sides, t.around());
            boolean isSame = t.highS == high && t.lowS == low;
            boolean isBelow = t.highS < high || (t.highS == high && t.lowS < low);
            return t.a == t.c ? isSame : isBelow;
        }

        private static boolean ofRight(Triangle t) {
            boolean isSoForLegs = t.a != t.b && (t.a % 2 == 0 || t.b % 2 == 0);
            int twiceRadius = t.a + t.b - t.c;
            return isSoForLegs && t.wholeRootOfS() > 0 && twiceRadius % 2 == 0
                    && t.innerRadius() == twiceRadius / 2 && t.outerDiameter() == t.c;
        }

        private static boolean ofPrimitive(Triangle t) {
            int ways = 0;
            for (int m = 2; m <= GREATEST_M; m++) {
                ways += isByNumber(t, m) ? 1 : 0;
            }
            return ways == 1 && Steps.stepsFromFirst(t.oddLeg(), t.evenLeg(), t.c) >= 0;
        }

        private static boolean isByNumber(Triangle t, int m) {
            int square = t.c - m * m;
            if (square < 1 || !Numbers.isSquare(square)) {
                return false;
            }
            int n = (int) Numbers.wholeRoot(square);
            return m > n && (m + n) % 2 == 1 && Numbers.commonDivisor(m, n) == 1
                    && m * m - square == t.oddLeg() && 2 * m * n == t.evenLeg();
        }
    }
}
