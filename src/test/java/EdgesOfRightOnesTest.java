import java.io.IOException;

/** Promises 22 to 28, sentence by sentence, at their edges. */
public final class EdgesOfRightOnesTest extends Sentences {
    private static final int[] NO_BOUNDS = {-1, 401, 402, -400, 65536, Integer.MIN_VALUE, Integer.MAX_VALUE};
    private static final int[] NO_NUMBERS = {0, 1001, 1002, -1, -1000, 65537, Integer.MIN_VALUE, Integer.MAX_VALUE};
    private static final char[] WAYS = {'e', 't', 'h'};

    private EdgesOfRightOnesTest() throws IOException {
        super("edges of right ones", 22, 28);
    }

    public static void main(String[] args) throws IOException {
        EdgesOfRightOnesTest t = new EdgesOfRightOnesTest();
        t.promise22Euclid();
        t.promise22EuclidRefused();
        t.promise23Step();
        t.promise23StepRefused();
        t.promise24Depth();
        t.promise25Generator();
        t.promise26List();
        t.promise26ListRefused();
        t.promise27Listed();
        t.promise28Counts();
        t.end();
    }

    private void dueOfEuclid(String sides, int m, int n) {
        Trigonyard x = fresh();
        int longest = x.euclid(0, m, n);
        due("euclid " + m + " " + n, at(x, 0), sides);
        due("euclid " + m + " " + n, longest, m * m + n * n);
    }

    private void promise22Euclid() {
        test(22, "Holds the right triangle of two numbers at a place, in place of what is held there: its sides are m m - n"
                + " n, 2 m n and m m + n n.", () -> {
            dueOfEuclid("3 4 5", 2, 1);
            dueOfEuclid("8 15 17", 4, 1);
            // Both odd, or with a common divisor: not primitive, and held as it is.
            dueOfEuclid("6 8 10", 3, 1);
            dueOfEuclid("12 16 20", 4, 2);
            Trigonyard x = full();
            x.euclid(15, 2, 1);
            due("over another", at(x, 15), "3 4 5");
            x.put(15, 65, 72, 97);
            due("the others", told(x), told(full()));
        });
        test(22, "`place`: 0 to 15", () -> {
            placesAreAlike((x, place) -> x.euclid(place, 255, 1));
            for (int place = 0; place < 16; place++) {
                Trigonyard x = fresh();
                x.euclid(place, 2, 1);
                due("euclid on a new one", at(x, place), "3 4 5");
            }
        });
        test(22, "`m`: 2 to 255", () -> {
            for (int m = 2; m <= 255; m++) {
                String legs = m == 2 ? "3 4 " : 2 * m + " " + (m * m - 1) + " ";
                dueOfEuclid(legs + (m * m + 1), m, 1);
            }
        });
        test(22, "`n`: 1 to m less 1", () -> {
            for (int m = 2; m <= 181; m++) {
                int longLeg = 2 * m * (m - 1);
                dueOfEuclid((2 * m - 1) + " " + longLeg + " " + (longLeg + 1), m, m - 1);
            }
            dueOfEuclid("510 65024 65026", 255, 1);
        });
        test(22, "Returns its longest side.", () -> {
            due("euclid of the least", fresh().euclid(0, 2, 1), 5);
            due("euclid of the longest", fresh().euclid(0, 213, 142), 65533);
        });
    }

    private void promise22EuclidRefused() {
        test(22, "Throws `IndexOutOfBoundsException` if there is no such place", () -> {
            otherPlacesAreRefused((x, place) -> x.euclid(place, 2, 1));
            otherPlacesAreRefused((x, place) -> x.euclid(place, 1, 1));
            otherPlacesAreRefused((x, place) -> x.euclid(place, 255, 254));
        });
        test(22, "Throws `IllegalArgumentException` if m or n is out of range", () -> {
            int[][] none = {{1, 1}, {1, 0}, {0, 0}, {0, -1}, {-1, -2}, {-2, 1}, {256, 1}, {257, 1}, {Integer.MAX_VALUE, 1},
                {Integer.MIN_VALUE, 1}, {65537, 1}, {2, 0}, {2, 2}, {2, 3}, {2, -1}, {255, 0}, {255, 255}, {255, 256},
                {255, -255}, {100, 100}, {100, 101}, {3, Integer.MIN_VALUE}, {3, Integer.MAX_VALUE},
                {Integer.MAX_VALUE, Integer.MAX_VALUE - 1}, {Integer.MIN_VALUE, Integer.MIN_VALUE}, {46341, 1}};
            for (int[] mn : none) {
                refusedAlways("euclid " + mn[0] + " " + mn[1], ARGUMENT, x -> x.euclid(0, mn[0], mn[1]));
            }
            // Its longest side would be above 65535, too.
            refusedAlways("euclid 256 255", ARGUMENT, x -> x.euclid(15, 256, 255));
            refusedAlways("euclid 255 255", ARGUMENT, x -> x.euclid(15, 255, 255));
        });
        test(22, "Throws `IllegalStateException` if its longest side would be above 65535", () -> {
            int[][] none = {{184, 178}, {206, 152}, {254, 32}, {255, 23}, {255, 254}, {182, 181}};
            for (int[] mn : none) {
                refusedAlways("euclid " + mn[0] + " " + mn[1], STATE, x -> x.euclid(0, mn[0], mn[1]));
                refusedAlways("euclid " + mn[0] + " " + mn[1], STATE, x -> x.euclid(15, mn[0], mn[1]));
            }
            int[][] some = {{213, 142}, {253, 39}, {183, 179}, {254, 31}, {255, 22}, {181, 180}};
            for (int[] mn : some) {
                due("euclid " + mn[0] + " " + mn[1], fresh().euclid(0, mn[0], mn[1]), mn[0] * mn[0] + mn[1] * mn[1]);
            }
        });
    }

    private void dueOfStep(char how, String sides, int... from) {
        Trigonyard x = holding(from);
        int longest = x.step(0, how);
        due("step " + how, at(x, 0), sides);
        due("step " + how + " answered", longest, x.side(0, 2));
    }

    /** Primitive and with m above n, by all m and n: each of them comes back by p. */
    private void stepsComeBack(char how, int m, int n) {
        Trigonyard x = fresh();
        x.euclid(0, m, n);
        String from = at(x, 0);
        int depth = x.depth(0);
        if (thrownBy(x, y -> y.step(0, how)) == null) {
            due("depth after " + how + " of " + from, x.depth(0), depth + 1);
            x.step(0, 'p');
            due("step " + how + " and back", at(x, 0), from);
        } else {
            due("step " + how + " refused", at(x, 0), from);
        }
    }

    private void promise23Step() {
        test(23, "Makes another primitive triangle of a primitive one.", () -> {
            for (int m = 2; m < 120; m += m < 30 ? 1 : 7) {
                for (int n = 1 + m % 2; n < m; n += m < 30 ? 2 : 6) {
                    if (gcd(m, n) == 1) {
                        stepsComeBack('a', m, n);
                        stepsComeBack('b', m, n);
                        stepsComeBack('c', m, n);
                    }
                }
            }
            Trigonyard x = full();
            x.step(15, 'b');
            x.step(15, 'p');
            due("the others", told(x), told(full()));
        });
        test(23, "`place`: 0 to 15", () -> {
            for (char how : new char[] {'a', 'b', 'c', 'p'}) {
                placesAreAlike((x, place) -> x.step(place, how));
            }
        });
        test(23, "`how`: a, b or c: that of this step; p: that of which it comes by one step", () -> {
            dueOfStep('a', "5 12 13", 3, 4, 5);
            dueOfStep('b', "20 21 29", 3, 4, 5);
            dueOfStep('c', "8 15 17", 3, 4, 5);
            dueOfStep('a', "39 80 89", 20, 21, 29);
            dueOfStep('b', "119 120 169", 20, 21, 29);
            dueOfStep('c', "36 77 85", 20, 21, 29);
            dueOfStep('a', "7 24 25", 5, 12, 13);
            dueOfStep('c', "12 35 37", 8, 15, 17);
            dueOfStep('p', "3 4 5", 5, 12, 13);
            dueOfStep('p', "3 4 5", 20, 21, 29);
            dueOfStep('p', "3 4 5", 8, 15, 17);
            dueOfStep('p', "20 21 29", 119, 120, 169);
            dueOfStep('p', "359 64440 64441", 361, 65160, 65161);
        });
        test(23, "Returns its longest side then.", () -> {
            due("step a up to 65525", holding(8289, 46760, 47489).step(0, 'a'), 65525);
            due("step b up to 65525", holding(10795, 4452, 11677).step(0, 'b'), 65525);
            due("step c up to 65509", holding(44037, 9284, 45005).step(0, 'c'), 65509);
            due("step p down to 5", holding(5, 12, 13).step(0, 'p'), 5);
            due("step p of one of the longest", holding(9747, 64796, 65525).step(0, 'p'),
                    3 * 65525 - 2 * 9747 - 2 * 64796);
        });
    }

    private static int gcd(int a, int b) {
        return b == 0 ? a : gcd(b, a % b);
    }

    private void refusedStep(char how, int... sides) {
        refused("step " + how + " of " + at(holding(sides), 0), () -> holding(sides), STATE, x -> x.step(0, how));
    }

    private void promise23StepRefused() {
        test(23, "Throws `IndexOutOfBoundsException` if there is no such place", () -> {
            otherPlacesAreRefused((x, place) -> x.step(place, 'a'));
            otherPlacesAreRefused((x, place) -> x.step(place, 'p'));
            otherPlacesAreRefused((x, place) -> x.step(place, 'x'));
        });
        test(23, "Throws `IllegalArgumentException` if there is no such how", () -> {
            otherSignsAreRefused("abcp", (x, how) -> x.step(0, how));
            refused("step d of one that is not right", () -> holding(13, 14, 15), ARGUMENT, x -> x.step(0, 'd'));
            refused("step d of one that is not primitive", () -> holding(6, 8, 10), ARGUMENT, x -> x.step(0, 'd'));
        });
        test(23, "Throws `NoSuchElementException` if none is held there", () -> {
            for (char how : new char[] {'a', 'b', 'c', 'p'}) {
                refusedWhereNoneIs((x, place) -> x.step(place, how));
            }
        });
        test(23, "Throws `IllegalStateException` if it is not primitive, or, with p, is 3, 4, 5, or a side would be above"
                + " 65535", () -> {
            for (char how : new char[] {'a', 'b', 'c', 'p'}) {
                refusedStep(how, 6, 8, 10);
                refusedStep(how, 15, 36, 39);
                refusedStep(how, 39321, 52428, 65535);
                refusedStep(how, 2, 2, 3);
                refusedStep(how, 4, 7, 8);
                refusedStep(how, 1, 1, 1);
                refusedStep(how, 5, 5, 5);
                refusedStep(how, 3, 5, 5);
            }
            refusedStep('p', 3, 4, 5);
            refusedStep('a', 12455, 34008, 36217);
            refusedStep('b', 5439, 10120, 11489);
            refusedStep('c', 64515, 508, 64517);
            refusedStep('a', 9747, 64796, 65525);
            refusedStep('b', 9747, 64796, 65525);
            refusedStep('c', 43053, 49396, 65525);
        });
    }

    private void dueOfDepth(int depth, int m, int n) {
        Trigonyard x = fresh();
        x.euclid(0, m, n);
        due("depth of " + at(x, 0), x.depth(0), depth);
    }

    private void promise24Depth() {
        test(24, "Returns by how many steps a primitive triangle comes of 3, 4, 5.", () -> {
            leavesAll("depth", Sentences::full, x -> x.depth(15));
            for (char how : new char[] {'a', 'b', 'c'}) {
                Trigonyard x = holding(3, 4, 5);
                for (int steps = 1; steps < 120 && thrownBy(x, y -> y.step(0, how)) == null; steps++) {
                    due("depth after " + steps + " steps " + how, x.depth(0), steps);
                }
            }
        });
        test(24, "`place`: 0 to 15", () -> placesAreAlike((x, place) -> x.depth(place)));
        test(24, "Returns how many.", () -> {
            dueOfDepth(0, 2, 1);
            dueOfDepth(1, 3, 2);
            dueOfDepth(1, 5, 2);
            dueOfDepth(1, 4, 1);
            dueOfDepth(178, 180, 179);
            dueOfDepth(179, 181, 180);
            dueOfDepth(126, 254, 1);
        });
        test(24, "Throws `IndexOutOfBoundsException` if there is no such place",
                () -> otherPlacesAreRefused((x, place) -> x.depth(place)));
        test(24, "Throws `NoSuchElementException` if none is held there",
                () -> refusedWhereNoneIs((x, place) -> x.depth(place)));
        test(24, "Throws `IllegalStateException` if it is not primitive", () -> {
            int[][] none = {{6, 8, 10}, {9, 12, 15}, {39321, 52428, 65535}, {13, 14, 15}, {2, 2, 3}, {5, 5, 5}, {1, 1, 1}};
            for (int[] sides : none) {
                refused("depth of " + at(holding(sides), 0), () -> holding(sides), STATE, x -> x.depth(0));
            }
        });
    }

    private void promise25Generator() {
        test(25, "Returns one of the two numbers of which a primitive triangle comes, as told in the theorem (6).", () -> {
            for (int m = 2; m <= 255; m++) {
                for (int n = 1 + m % 2; n < m && m * m + n * n <= 65535; n += 2) {
                    if (gcd(m, n) == 1) {
                        Trigonyard x = fresh();
                        x.euclid(3, m, n);
                        due("generator m of " + at(x, 3), x.generator(3, 'm'), m);
                        due("generator n of " + at(x, 3), x.generator(3, 'n'), n);
                    }
                }
            }
            due("generator m of 3 4 5", holding(3, 4, 5).generator(0, 'm'), 2);
            due("generator n of 3 4 5", holding(3, 4, 5).generator(0, 'n'), 1);
            leavesAll("generator", Sentences::full, x -> x.generator(15, 'n'));
        });
        test(25, "`place`: 0 to 15", () -> {
            placesAreAlike((x, place) -> x.generator(place, 'm'));
            placesAreAlike((x, place) -> x.generator(place, 'n'));
        });
        test(25, "`which`: m or n", () -> {
            due("m", holding(5, 12, 13).generator(0, 'm'), 3);
            due("n", holding(5, 12, 13).generator(0, 'n'), 2);
        });
        test(25, "Returns the number.", () -> {
            due("greatest m", holding(11220, 64541, 65509).generator(0, 'm'), 255);
            due("n beside it", holding(11220, 64541, 65509).generator(0, 'n'), 22);
            due("greatest n", holding(361, 65160, 65161).generator(0, 'n'), 180);
            due("m beside it", holding(361, 65160, 65161).generator(0, 'm'), 181);
        });
        test(25, "Throws `IndexOutOfBoundsException` if there is no such place", () -> {
            otherPlacesAreRefused((x, place) -> x.generator(place, 'm'));
            otherPlacesAreRefused((x, place) -> x.generator(place, 'x'));
        });
        test(25, "Throws `IllegalArgumentException` if there is no such which", () -> {
            otherSignsAreRefused("mn", (x, which) -> x.generator(0, which));
            refused("generator o of one that is not right", () -> holding(13, 14, 15), ARGUMENT, x -> x.generator(0, 'o'));
            refused("generator l of one that is not primitive", () -> holding(6, 8, 10), ARGUMENT,
                    x -> x.generator(0, 'l'));
        });
        test(25, "Throws `NoSuchElementException` if none is held there", () -> {
            refusedWhereNoneIs((x, place) -> x.generator(place, 'm'));
            refusedWhereNoneIs((x, place) -> x.generator(place, 'n'));
        });
        test(25, "Throws `IllegalStateException` if it is not primitive", () -> {
            int[][] none = {{6, 8, 10}, {9, 12, 15}, {510, 65024, 65026}, {13, 14, 15}, {2, 2, 3}, {5, 5, 5}, {1, 1, 1}};
            for (int[] sides : none) {
                refused("generator m of " + at(holding(sides), 0), () -> holding(sides), STATE, x -> x.generator(0, 'm'));
                refused("generator n of " + at(holding(sides), 0), () -> holding(sides), STATE, x -> x.generator(0, 'n'));
            }
        });
    }

    /** The list that is due, by trying all sides. */
    private static String dueList(int bound) {
        StringBuilder all = new StringBuilder();
        for (int c = 1; c <= bound; c++) {
            for (int a = 1; a < c; a++) {
                int b = (int) Math.round(Math.sqrt(c * c - a * a));
                if (a < b && a * a + b * b == c * c && gcd(a, b) == 1) {
                    all.append(a).append(' ').append(b).append(' ').append(c).append(", ");
                }
            }
        }
        return all.toString();
    }

    private void promise26List() {
        test(26, "Makes the list of all primitive triangles whose longest sides are not above a bound, in the order of their"
                + " longest sides, those with the same one in that of their shortest sides; it stays as it is until the next"
                + " list().", () -> {
            for (char way : WAYS) {
                Trigonyard x = busy();
                x.list(way, 65);
                due("the same longest sides", list(x).endsWith("11 60 61, 16 63 65, 33 56 65, "), true);
                x.list(way, 85);
                due("the same longest sides", list(x).endsWith("13 84 85, 36 77 85, "), true);
                listStays(way, 85);
                listStays(way, 400);
                x.list(way, 4);
                due("an empty list after another", list(x), "");
            }
        });
        test(26, "`way`: in which they are found: e of all m and n, t by steps from 3, 4, 5, h by hypot() of all two legs;"
                + " the list is the same", () -> {
            for (int bound = 0; bound <= 400; bound++) {
                String want = dueList(bound);
                for (char way : WAYS) {
                    Trigonyard x = fresh();
                    x.list(way, bound);
                    due("list " + way + " " + bound, list(x), want);
                }
            }
        });
        test(26, "`bound`: 0 to 400", () -> {
            for (char way : WAYS) {
                due("list " + way + " 0", fresh().list(way, 0), 0);
                due("list " + way + " 1", fresh().list(way, 1), 0);
                due("list " + way + " 399", fresh().list(way, 399), 63);
                due("list " + way + " 400", fresh().list(way, 400), 63);
            }
        });
        test(26, "Returns how many there are.", () -> {
            int[][] some = {{4, 0}, {5, 1}, {12, 1}, {13, 2}, {64, 9}, {65, 11}, {84, 12}, {85, 14}, {396, 62}, {397, 63}};
            for (int[] s : some) {
                for (char way : WAYS) {
                    due("list " + way + " " + s[0], busy().list(way, s[0]), s[1]);
                    due("list " + way + " " + s[0], full().list(way, s[0]), s[1]);
                }
            }
        });
    }

    /** Until the next list() all other calls leave it. */
    private void listStays(char way, int bound) {
        Trigonyard x = busy();
        x.list(way, bound);
        String before = list(x);
        x.put(15, 5, 12, 13);
        x.euclid(14, 20, 1);
        x.step(15, 'b');
        x.join(1, 1, 13);
        x.copy(0, 12);
        x.scale(0, 3);
        x.reduce(0);
        x.take(2);
        x.sort('p');
        x.listIsTrue(400);
        x.listIsTrue(5);
        x.countIsTrue(65);
        x.isTrue(1);
        thrownBy(x, y -> y.list('x', 5));
        thrownBy(x, y -> y.list('e', 401));
        thrownBy(x, y -> y.list('t', -1));
        due("list " + way + " " + bound + " behind other calls", list(x), before);
    }

    private void promise26ListRefused() {
        test(26, "Throws `IllegalArgumentException` if there is no such way, or the bound is out of range", () -> {
            otherSignsAreRefused("eth", (x, way) -> x.list(way, 0));
            otherSignsAreRefused("eth", (x, way) -> x.list(way, 400));
            for (int bound : NO_BOUNDS) {
                for (char way : new char[] {'e', 't', 'h', 'x'}) {
                    refusedAlways("list " + way + " " + bound, ARGUMENT, x -> x.list(way, bound));
                }
            }
        });
    }

    private static Trigonyard listing(char way, int bound) {
        Trigonyard x = busy();
        x.list(way, bound);
        return x;
    }

    private void promise27Listed() {
        test(27, "Returns a side of a triangle of the list.", () -> {
            leavesAll("listed", Sentences::full, x -> x.listed(0, 0));
            leavesAll("listed of the longest list", () -> listing('h', 400), x -> x.listed(62, 2));
        });
        test(27, "`number`: its place in the list, from 0", () -> {
            for (char way : WAYS) {
                due("first", listing(way, 400).listed(0, 2), 5);
                due("second", listing(way, 400).listed(1, 2), 13);
                due("last but one", listing(way, 400).listed(61, 2), 389);
                due("last", listing(way, 400).listed(62, 2), 397);
                due("the only one", listing(way, 5).listed(0, 2), 5);
            }
        });
        test(27, "`which`: 0 to 2", () -> {
            due("0", listing('e', 17).listed(2, 0), 8);
            due("1", listing('e', 17).listed(2, 1), 15);
            due("2", listing('e', 17).listed(2, 2), 17);
            due("0 of the last", listing('t', 400).listed(62, 0), 228);
            due("1 of the last", listing('t', 400).listed(62, 1), 325);
        });
        test(27, "Returns its length.", () -> {
            for (int number = 0; number < 63; number++) {
                Trigonyard x = listing('t', 400);
                int a = x.listed(number, 0);
                int b = x.listed(number, 1);
                int c = x.listed(number, 2);
                due("the squares of " + number, a * a + b * b, c * c);
                due("the legs of " + number, a < b, true);
            }
        });
        test(27, "Throws `IndexOutOfBoundsException` if there is no such number or which", () -> {
            int[][] counts = {{0, 0}, {4, 0}, {5, 1}, {13, 2}, {85, 14}, {400, 63}};
            for (int[] c : counts) {
                for (int number : new int[] {-1, c[1], c[1] + 1, 63, 64, 65, -63, 65536, Integer.MIN_VALUE,
                    Integer.MAX_VALUE}) {
                    refused("listed " + number + " of " + c[1], () -> listing('e', c[0]), INDEX, x -> x.listed(number, 0));
                    refused("listed " + number + " of " + c[1], () -> listing('h', c[0]), INDEX, x -> x.listed(number, 2));
                    refused("listed " + number + ", 3", () -> listing('t', c[0]), INDEX, x -> x.listed(number, 3));
                }
            }
            for (int which : NO_SIDES) {
                refusedAlways("listed 0, " + which, INDEX, x -> x.listed(0, which));
                refused("listed of the last, " + which, () -> listing('t', 400), INDEX, x -> x.listed(62, which));
            }
            Trigonyard x = listing('e', 400);
            x.list('e', 13);
            due("a shorter list after a long one", thrownBy(x, y -> y.listed(2, 0)), INDEX);
        });
    }

    /** By the theorem (7), as the document tells it. */
    private static int dueCount(char how, int number) {
        int rest = how == 'l' && number % 2 == 0 ? number / 2 : number;
        int product = 1;
        for (int prime = 2; prime <= rest; prime++) {
            int times = 0;
            for (; rest % prime == 0; rest /= prime) {
                times++;
            }
            product *= how == 'l' || prime % 4 == 1 ? 2 * times + 1 : 1;
        }
        return (product - 1) / 2;
    }

    private void promise28Counts() {
        test(28, "Returns how many right triangles with whole sides, of any size, have a side of this length.", () -> {
            // The longest one with a leg of 999 is 999, 499000, 499001; not primitive ones count, too.
            due("counts l 999", fresh().counts('l', 999), 10);
            due("counts c 10", fresh().counts('c', 10), 1);
            due("counts l 6", fresh().counts('l', 6), 1);
            leavesAll("counts", Sentences::full, x -> x.counts('l', 840));
            leavesAll("counts", Sentences::busy, x -> x.counts('c', 925));
        });
        test(28, "`how`: c as their longest side, l as a leg", () -> {
            due("counts c 5", fresh().counts('c', 5), 1);
            due("counts l 5", fresh().counts('l', 5), 1);
            due("counts c 4", fresh().counts('c', 4), 0);
            due("counts l 4", fresh().counts('l', 4), 1);
            due("counts c 12", fresh().counts('c', 12), 0);
            due("counts l 12", fresh().counts('l', 12), 4);
        });
        test(28, "`number`: the length, 1 to 1000", () -> {
            due("counts c 1", fresh().counts('c', 1), 0);
            due("counts l 1", fresh().counts('l', 1), 0);
            due("counts c 2", fresh().counts('c', 2), 0);
            due("counts l 2", fresh().counts('l', 2), 0);
            due("counts l 3", fresh().counts('l', 3), 1);
            due("counts c 997", fresh().counts('c', 997), 1);
            due("counts c 999", fresh().counts('c', 999), 1);
            due("counts c 1000", fresh().counts('c', 1000), 3);
            due("counts l 1000", fresh().counts('l', 1000), 17);
        });
        test(28, "Returns how many.", () -> {
            for (int number = 1; number <= 1000; number++) {
                due("counts c " + number, fresh().counts('c', number), dueCount('c', number));
                due("counts l " + number, fresh().counts('l', number), dueCount('l', number));
            }
            due("the most with a leg", fresh().counts('l', 840), 67);
            due("the most with a longest side", fresh().counts('c', 325), 7);
        });
        test(28, "Throws `IllegalArgumentException` if there is no such how, or the length is out of range", () -> {
            otherSignsAreRefused("cl", (x, how) -> x.counts(how, 1));
            otherSignsAreRefused("cl", (x, how) -> x.counts(how, 1000));
            for (int number : NO_NUMBERS) {
                for (char how : new char[] {'c', 'l', 'x'}) {
                    refusedAlways("counts " + how + " " + number, ARGUMENT, x -> x.counts(how, number));
                }
            }
        });
    }
}
