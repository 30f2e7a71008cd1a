import java.math.BigInteger;
import java.util.ArrayList;
import java.util.Arrays;
import java.util.List;
import java.util.NoSuchElementException;

/** Long runs of mixed calls, right and wrong ones, beside a slow model by BigInteger and the JDK's StrictMath. */
public final class ModelTest {
    private static final int RUNS = 400;
    private static final int CALLS = 512;
    private static final long[][] PRIMITIVES = primitives();

    private static int wrong = 0;
    private static long seed = 1;

    private static final class Refused extends RuntimeException {
        private static final long serialVersionUID = 1;
        final Class<?> type;

        Refused(Class<?> type) {
            this.type = type;
        }
    }

    /** What the document asks for, told in its own words and as slowly as need be. */
    private static final class Model {
        final long[][] at = new long[16][];
        List<long[]> list = new ArrayList<>();
        List<Integer> order = new ArrayList<>();

        static void index(boolean isSo) {
            refuse(isSo, IndexOutOfBoundsException.class);
        }

        static void argument(boolean isSo) {
            refuse(isSo, IllegalArgumentException.class);
        }

        static void state(boolean isSo) {
            refuse(isSo, IllegalStateException.class);
        }

        private static void refuse(boolean isSo, Class<?> type) {
            if (!isSo) {
                throw new Refused(type);
            }
        }

        static void place(int p) {
            index(0 <= p && p <= 15);
        }

        static void which(int w) {
            index(0 <= w && w <= 2);
        }

        long[] held(int p) {
            refuse(at[p] != null, NoSuchElementException.class);
            return at[p];
        }

        static long[] triangle(long... sides) {
            long[] t = sides.clone();
            Arrays.sort(t);
            return t;
        }

        Object count() {
            int n = 0;
            for (long[] t : at) {
                n += t != null ? 1 : 0;
            }
            return n;
        }

        static BigInteger s(long[] t) {
            BigInteger p = BigInteger.valueOf(t[0] + t[1] + t[2]);
            BigInteger s = p;
            for (long side : t) {
                s = s.multiply(p.subtract(BigInteger.valueOf(2 * side)));
            }
            return s;
        }

        /** The root of S, or null. */
        static BigInteger rootS(long[] t) {
            BigInteger[] r = s(t).sqrtAndRemainder();
            return r[1].signum() == 0 ? r[0] : null;
        }

        static Object quotient(BigInteger one, BigInteger by) {
            state(one.mod(by).signum() == 0);
            return one.divide(by).longValueExact();
        }

        static long gcd(long[] t) {
            BigInteger g = BigInteger.valueOf(t[0]).gcd(BigInteger.valueOf(t[1]));
            return g.gcd(BigInteger.valueOf(t[2])).longValue();
        }

        static boolean right(long[] t) {
            return t[0] * t[0] + t[1] * t[1] == t[2] * t[2];
        }

        long[] primitive(int p) {
            long[] t = held(p);
            state(right(t) && gcd(t) == 1);
            return t;
        }

        Object hold(int p, long... sides) {
            long[] t = triangle(sides);
            state(t[2] <= 65535);
            at[p] = t;
            return (int) t[2];
        }

        Object put(int p, int a, int b, int c) {
            place(p);
            for (int side : new int[] {a, b, c}) {
                argument(1 <= side && side <= 65535);
            }
            long[] t = triangle(a, b, c);
            state(t[2] < t[0] + t[1]);
            at[p] = t;
            return count();
        }

        Object take(int p) {
            place(p);
            held(p);
            at[p] = null;
            return count();
        }

        Object copy(int p, int other) {
            place(p);
            place(other);
            at[other] = held(p);
            return count();
        }

        Object scale(int p, int by) {
            place(p);
            argument(1 <= by && by <= 64);
            long[] t = held(p);
            return hold(p, t[0] * by, t[1] * by, t[2] * by);
        }

        Object reduce(int p) {
            place(p);
            long[] t = held(p);
            long g = gcd(t);
            hold(p, t[0] / g, t[1] / g, t[2] / g);
            return (int) g;
        }

        Object join(int p, int other, int to) {
            place(p);
            place(other);
            place(to);
            long[] one = held(p);
            long[] two = held(other);
            state(right(one) && right(two));
            long best = 0;
            long beside = 0;
            for (int i = 0; i < 2; i++) {
                for (int j = 0; j < 2; j++) {
                    if (one[i] == two[j] && one[i] > best) {
                        best = one[i];
                        beside = one[1 - i] + two[1 - j];
                    }
                }
            }
            state(best > 0);
            return hold(to, one[2], two[2], beside);
        }

        Object angle(int p, int w) {
            place(p);
            which(w);
            long[] t = held(p);
            long c = t[w];
            long a = t[(w + 1) % 3];
            long b = t[(w + 2) % 3];
            // The cosine is (a a + b b - c c) / 2 a b.
            long above = a * a + b * b - c * c;
            if (above == 0) {
                return 90;
            }
            return 2 * above == 2 * a * b ? 60 : -2 * above == 2 * a * b ? 120 : 0;
        }

        Object area(int p) {
            place(p);
            BigInteger r = rootS(held(p));
            state(r != null);
            return quotient(r, BigInteger.valueOf(4));
        }

        Object areaIsWhole(int p) {
            place(p);
            BigInteger r = rootS(held(p));
            return r != null && r.mod(BigInteger.valueOf(4)).signum() == 0;
        }

        Object circle(int p, char what) {
            place(p);
            argument(what == 'i' || what == 'o');
            long[] t = held(p);
            BigInteger r = rootS(t);
            state(r != null);
            if (what == 'i') {
                return quotient(r, BigInteger.valueOf(2 * (t[0] + t[1] + t[2])));
            }
            return quotient(BigInteger.valueOf(t[0] * t[1] * t[2]).shiftLeft(1), r);
        }

        Object compareAreas(int p, int other) {
            place(p);
            place(other);
            long[] t = held(p);
            return s(t).compareTo(s(held(other)));
        }

        Object hypot(int p, int one, int other) {
            place(p);
            which(one);
            which(other);
            long[] t = held(p);
            return StrictMath.hypot(t[one], t[other]);
        }

        Object mean() {
            double sum = 0;
            int n = (Integer) count();
            for (long[] t : at) {
                sum += t == null ? 0 : t[0] + t[1] + t[2];
            }
            return n == 0 ? 0.0 : sum / n;
        }

        Object euclid(int p, int m, int n) {
            place(p);
            argument(2 <= m && m <= 255 && 1 <= n && n <= m - 1);
            return hold(p, m * m - n * n, 2 * m * n, m * m + n * n);
        }

        static long[] stepped(long[] t, char how) {
            long x = t[0] % 2 == 1 ? t[0] : t[1];
            long y = t[0] + t[1] - x;
            long z = t[2];
            switch (how) {
                case 'a':
                    return triangle(x - 2 * y + 2 * z, 2 * x - y + 2 * z, 2 * x - 2 * y + 3 * z);
                case 'b':
                    return triangle(x + 2 * y + 2 * z, 2 * x + y + 2 * z, 2 * x + 2 * y + 3 * z);
                default:
                    return triangle(2 * y + 2 * z - x, y + 2 * z - 2 * x, 2 * y + 3 * z - 2 * x);
            }
        }

        /** That of which it comes by one step: looked for among all that are shorter, by their m and n. */
        static long[] before(long[] t) {
            long m = mOf(t);
            long n = nOf(t);
            long[][] tries = {{2 * n - m, n}, {n, 2 * n - m}, {n, m - 2 * n}, {m - 2 * n, n}};
            for (long[] mn : tries) {
                if (mn[0] > mn[1] && mn[1] > 0) {
                    long m2 = mn[0] * mn[0];
                    long n2 = mn[1] * mn[1];
                    long[] b = triangle(m2 - n2, 2 * mn[0] * mn[1], m2 + n2);
                    for (char how = 'a'; how <= 'c'; how++) {
                        if (Arrays.equals(stepped(b, how), t)) {
                            return b;
                        }
                    }
                }
            }
            return null;
        }

        static long mOf(long[] t) {
            for (long m = 2; m < 257; m++) {
                for (long n = 1; n < m && m * m + n * n <= t[2]; n++) {
                    if (m * m + n * n == t[2] && (2 * m * n == t[0] || 2 * m * n == t[1])) {
                        return m;
                    }
                }
            }
            return 0;
        }

        static long nOf(long[] t) {
            long even = t[0] % 2 == 0 ? t[0] : t[1];
            return even / 2 / mOf(t);
        }

        Object step(int p, char how) {
            place(p);
            argument(how == 'a' || how == 'b' || how == 'c' || how == 'p');
            long[] t = primitive(p);
            if (how == 'p') {
                state(t[2] != 5);
                return hold(p, before(t));
            }
            return hold(p, stepped(t, how));
        }

        Object depth(int p) {
            place(p);
            int steps = 0;
            for (long[] t = primitive(p); t[2] != 5; t = before(t)) {
                steps++;
            }
            return steps;
        }

        Object generator(int p, char which) {
            place(p);
            argument(which == 'm' || which == 'n');
            long[] t = primitive(p);
            return (int) (which == 'm' ? mOf(t) : nOf(t));
        }

        Object list(char way, int bound) {
            argument((way == 'e' || way == 't' || way == 'h') && 0 <= bound && bound <= 400);
            list = new ArrayList<>();
            for (long[] t : PRIMITIVES) {
                if (t[2] <= bound) {
                    list.add(t);
                }
            }
            return list.size();
        }

        Object listed(int number, int w) {
            index(0 <= number && number < list.size());
            which(w);
            return (int) list.get(number)[w];
        }

        Object counts(char how, int number) {
            argument((how == 'c' || how == 'l') && 1 <= number && number <= 1000);
            long square = (long) number * number;
            int count = 0;
            for (long d = 1; d < number; d++) {
                if (how == 'l') {
                    count += square % d == 0 && (square / d + d) % 2 == 0 ? 1 : 0;
                } else {
                    BigInteger[] r = BigInteger.valueOf(square - d * d).sqrtAndRemainder();
                    count += r[1].signum() == 0 && r[0].longValue() > d ? 1 : 0;
                }
            }
            return count;
        }

        Object sort(char by) {
            argument(by == 'c' || by == 'p' || by == 's');
            order = new ArrayList<>();
            for (int p = 0; p < 16; p++) {
                if (at[p] != null) {
                    order.add(p);
                }
            }
            order.sort((one, two) -> {
                long[] t = at[one];
                long[] u = at[two];
                if (by == 'c') {
                    return Long.compare(t[2], u[2]);
                }
                return by == 's' ? s(t).compareTo(s(u)) : Long.compare(t[0] + t[1] + t[2], u[0] + u[1] + u[2]);
            });
            return order.size();
        }

        Object sorted(int number) {
            index(0 <= number && number < order.size());
            return order.get(number);
        }

        Object checksum() {
            long h = 0;
            for (long[] t : at) {
                h = 31 * h + (t == null ? 0 : 4294967296L * t[0] + 65536 * t[1] + t[2]);
            }
            for (long[] t : list) {
                h = 31 * h + t[2];
            }
            for (int p : order) {
                h = 31 * h + p;
            }
            return h;
        }
    }

    private static long[][] primitives() {
        List<long[]> all = new ArrayList<>();
        for (long c = 1; c <= 400; c++) {
            for (long a = 1; a < c; a++) {
                for (long b = a; b < c; b++) {
                    long[] t = {a, b, c};
                    if (Model.right(t) && Model.gcd(t) == 1) {
                        all.add(t);
                    }
                }
            }
        }
        return all.toArray(new long[0][]);
    }

    private static int any(int bound) {
        seed = seed * 6364136223846793005L + 1442695040888963407L;
        return (int) ((seed >>> 33) % bound);
    }

    private static int anyPlace() {
        return any(40) == 0 ? new int[] {-1, 16, Integer.MAX_VALUE, Integer.MIN_VALUE}[any(4)] : any(16);
    }

    private static int anyWhich() {
        return any(25) == 0 ? new int[] {-1, 3, Integer.MAX_VALUE, Integer.MIN_VALUE}[any(4)] : any(3);
    }

    private static int anySide() {
        int[] odd = {0, -1, 65536, 65535, 65534, 1, Integer.MAX_VALUE, Integer.MIN_VALUE};
        return any(30) == 0 ? odd[any(odd.length)] : 1 + any(any(3) == 0 ? 65535 : 1 << (1 + any(8)));
    }

    private static char anyOf(String signs) {
        return any(20) == 0 ? (char) any(128) : signs.charAt(any(signs.length()));
    }

    private static int anyNumber(int least, int most) {
        int[] odd = {least - 1, least, most, most + 1, Integer.MAX_VALUE, Integer.MIN_VALUE};
        return any(10) == 0 ? odd[any(odd.length)] : least + any(most - least + 1);
    }

    private static long anyLong() {
        long[] odd = {-1, 0, 8589672450L, 8589672451L, Long.MAX_VALUE, Long.MIN_VALUE};
        if (any(10) == 0) {
            return odd[any(odd.length)];
        }
        long root = any(92681);
        return any(2) == 0 ? root * root : (root * root + any(200000)) % 8589672451L;
    }

    private interface Answer {
        Object get();
    }

    private static void compare(String call, Answer got, Answer want) {
        Object g;
        Object w;
        try {
            g = got.get();
        } catch (RuntimeException e) {
            g = e.getClass();
        }
        try {
            w = want.get();
        } catch (Refused e) {
            w = e.type;
        }
        if (!g.equals(w)) {
            wrong++;
            System.out.println(call + " answered " + g + ", due is " + w);
        }
    }

    /** True, if the model finds the arguments in range: the theorem is true of all of them. */
    private static Object isTrueIf(boolean inRange) {
        Model.argument(inRange);
        return true;
    }

    private static void callTriangles(int kind, Trigonyard x, Model m) {
        int p = anyPlace();
        int q = anyPlace();
        int r = anyPlace();
        int w = anyWhich();
        switch (kind) {
            case 0: {
                int a = anySide();
                int b = any(3) == 0 ? a : anySide();
                int c = any(2) == 0 ? Math.max(1, Math.min(65535, a + any(9) - 4)) : anySide();
                compare("put " + p + " " + a + " " + b + " " + c, () -> x.put(p, a, b, c), () -> m.put(p, a, b, c));
                break;
            }
            case 1:
                compare("take " + p, () -> x.take(p), () -> m.take(p));
                break;
            case 2:
                compare("isHeld " + p, () -> x.isHeld(p), () -> {
                    Model.place(p);
                    return m.at[p] != null;
                });
                break;
            case 3:
                compare("side " + p + " " + w, () -> x.side(p, w), () -> {
                    Model.place(p);
                    Model.which(w);
                    return (int) m.held(p)[w];
                });
                break;
            case 4:
                compare("copy " + p + " " + q, () -> x.copy(p, q), () -> m.copy(p, q));
                break;
            case 5: {
                int by = any(2) == 0 ? 1 + any(5) : anyNumber(1, 64);
                compare("scale " + p + " " + by, () -> x.scale(p, by), () -> m.scale(p, by));
                break;
            }
            case 6:
                compare("reduce " + p, () -> x.reduce(p), () -> m.reduce(p));
                break;
            default:
                compare("join " + p + " " + q + " " + r, () -> x.join(p, q, r), () -> m.join(p, q, r));
        }
    }

    private static void callNumbers(int kind, Trigonyard x, Model m) {
        int p = anyPlace();
        int q = anyPlace();
        int w = anyWhich();
        int v = anyWhich();
        long n = anyLong();
        char what = anyOf("io");
        switch (kind) {
            case 0:
                compare("kind " + p, () -> x.kind(p), () -> {
                    Model.place(p);
                    long[] t = m.held(p);
                    return Long.signum(t[0] * t[0] + t[1] * t[1] - t[2] * t[2]);
                });
                break;
            case 1:
                compare("angle " + p + " " + w, () -> x.angle(p, w), () -> m.angle(p, w));
                break;
            case 2:
                compare("areaIsWhole " + p, () -> x.areaIsWhole(p), () -> m.areaIsWhole(p));
                break;
            case 3:
                compare("area " + p, () -> x.area(p), () -> m.area(p));
                break;
            case 4:
                compare("circle " + p + " " + what, () -> x.circle(p, what), () -> m.circle(p, what));
                break;
            case 5:
                compare("compareAreas " + p + " " + q, () -> x.compareAreas(p, q), () -> m.compareAreas(p, q));
                break;
            case 6:
                compare("product " + p, () -> x.product(p), () -> {
                    Model.place(p);
                    return Model.s(m.held(p)).longValue();
                });
                break;
            case 7:
                compare("bits " + p, () -> x.bits(p), () -> {
                    Model.place(p);
                    return Model.s(m.held(p)).bitLength();
                });
                break;
            case 8:
                compare("hypot " + p + " " + w + " " + v, () -> x.hypot(p, w, v), () -> m.hypot(p, w, v));
                break;
            case 9:
                compare("root " + n, () -> x.root(n), () -> {
                    Model.argument(0 <= n && n <= 8589672450L);
                    return StrictMath.sqrt((double) n);
                });
                break;
            case 10:
                compare("shape " + p, () -> x.shape(p), () -> {
                    Model.place(p);
                    long[] t = m.held(p);
                    return (float) ((double) t[0] / t[2]);
                });
                break;
            default:
                compare("mean", () -> x.mean(), () -> m.mean());
        }
    }

    private static void callRightOnes(int kind, Trigonyard x, Model m) {
        int p = anyPlace();
        int w = anyWhich();
        switch (kind) {
            case 0: {
                int a = any(2) == 0 ? 2 + any(9) : anyNumber(2, 255);
                int b = any(5) == 0 ? anyNumber(1, a) : 1 + any(Math.max(1, a));
                compare("euclid " + p + " " + a + " " + b, () -> x.euclid(p, a, b), () -> m.euclid(p, a, b));
                break;
            }
            case 1: {
                char how = anyOf("abcp");
                compare("step " + p + " " + how, () -> x.step(p, how), () -> m.step(p, how));
                break;
            }
            case 2:
                compare("depth " + p, () -> x.depth(p), () -> m.depth(p));
                break;
            case 3: {
                char which = anyOf("mn");
                compare("generator " + p + " " + which, () -> x.generator(p, which), () -> m.generator(p, which));
                break;
            }
            case 4: {
                char way = anyOf("eth");
                int bound = any(2) == 0 ? any(60) : anyNumber(0, 400);
                compare("list " + way + " " + bound, () -> x.list(way, bound), () -> m.list(way, bound));
                break;
            }
            case 5: {
                int number = anyNumber(0, 63);
                compare("listed " + number + " " + w, () -> x.listed(number, w), () -> m.listed(number, w));
                break;
            }
            default: {
                char how = anyOf("cl");
                int number = anyNumber(1, 1000);
                compare("counts " + how + " " + number, () -> x.counts(how, number), () -> m.counts(how, number));
            }
        }
    }

    private static void callOthers(int kind, Trigonyard x, Model m) {
        int p = anyPlace();
        long n = anyLong();
        switch (kind) {
            case 0: {
                char by = anyOf("cps");
                compare("sort " + by, () -> x.sort(by), () -> m.sort(by));
                break;
            }
            case 1: {
                int number = anyNumber(0, 15);
                compare("sorted " + number, () -> x.sorted(number), () -> m.sorted(number));
                break;
            }
            case 2:
                compare("isTrue " + p, () -> x.isTrue(p), () -> {
                    Model.place(p);
                    m.held(p);
                    return true;
                });
                break;
            case 3:
                compare("rootIsTrue " + n, () -> x.rootIsTrue(n), () -> isTrueIf(0 <= n && n <= 8589672450L));
                break;
            case 4: {
                int a = anyNumber(0, 65535);
                int b = anyNumber(0, 65535);
                boolean inRange = 0 <= a && a <= 65535 && 0 <= b && b <= 65535;
                compare("hypotIsTrue " + a + " " + b, () -> x.hypotIsTrue(a, b), () -> isTrueIf(inRange));
                break;
            }
            case 5: {
                int a = anyNumber(0, 400);
                compare("listIsTrue " + a, () -> x.listIsTrue(a), () -> isTrueIf(0 <= a && a <= 400));
                break;
            }
            default: {
                int a = anyNumber(1, 1000);
                compare("countIsTrue " + a, () -> x.countIsTrue(a), () -> isTrueIf(1 <= a && a <= 1000));
            }
        }
    }

    public static void main(String[] args) {
        for (int run = 1; run <= RUNS && wrong < 20; run++) {
            seed = run * 7919L;
            Trigonyard x = new Trigonyard();
            Model m = new Model();
            // The last half of the calls are checksums: each call is followed by one.
            for (int call = 0; call < CALLS / 2; call++) {
                int kind = any(34 + 6);
                if (kind < 8) {
                    callTriangles(kind, x, m);
                } else if (kind < 20) {
                    callNumbers(kind - 8, x, m);
                } else if (kind < 27) {
                    callRightOnes(kind - 20, x, m);
                } else if (kind < 34) {
                    callOthers(kind - 27, x, m);
                } else if (kind < 37) {
                    callTriangles(0, x, m);
                } else {
                    callRightOnes(0, x, m);
                }
                compare("run " + run + ", call " + call + ": checksum", () -> x.checksum(), () -> m.checksum());
            }
        }
        System.out.println(wrong == 0 ? "model: all as due" : "model: " + wrong + " not as due");
        if (wrong != 0) {
            System.exit(1);
        }
    }
}
