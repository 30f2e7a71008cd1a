import java.io.IOException;

/** Promises 1 to 9, sentence by sentence, at their edges. */
public final class EdgesOfTrianglesTest extends Sentences {
    private static final int[][] ORDERS = {{0, 1, 2}, {0, 2, 1}, {1, 0, 2}, {1, 2, 0}, {2, 0, 1}, {2, 1, 0}};

    private EdgesOfTrianglesTest() throws IOException {
        super("edges of triangles", 1, 9);
    }

    public static void main(String[] args) throws IOException {
        EdgesOfTrianglesTest t = new EdgesOfTrianglesTest();
        t.promise1New();
        t.promise2Put();
        t.promise2PutRefused();
        t.promise3Take();
        t.promise4IsHeld();
        t.promise5Side();
        t.promise6Copy();
        t.promise7Scale();
        t.promise7ScaleRefused();
        t.promise8Reduce();
        t.promise9Join();
        t.promise9JoinRefused();
        t.end();
    }

    private void promise1New() {
        test(1, "No triangle is held; the list and the order have nothing in them.", () -> {
            full();
            Trigonyard x = new Trigonyard();
            for (int place = 0; place < 16; place++) {
                due("isHeld " + place, x.isHeld(place), false);
            }
            for (int which = 0; which < 3; which++) {
                int side = which;
                refused("listed 0, " + which, Sentences::fresh, INDEX, y -> y.listed(0, side));
            }
            refused("sorted 0", Sentences::fresh, INDEX, y -> y.sorted(0));
            due("sort", x.sort('c'), 0);
            due("checksum", x.checksum(), 0L);
            due("mean", x.mean(), 0.0);
        });
    }

    /** Puts three sides in each of their six orders. */
    private void putInAllOrders(int... sides) {
        for (int[] o : ORDERS) {
            Trigonyard x = new Trigonyard();
            due("put", x.put(4, sides[o[0]], sides[o[1]], sides[o[2]]), 1);
            due("put", at(x, 4), sides[0] + " " + sides[1] + " " + sides[2]);
        }
    }

    private void promise2Put() {
        test(2, "Holds a triangle at a place, in place of what is held there.", () -> {
            Trigonyard x = full();
            String before = places(x);
            x.put(0, 6, 5, 4);
            x.put(15, 1, 1, 1);
            due("put over others", places(x), "4 5 6" + before.substring(5, before.length() - 8) + "1 1 1");
            due("put leaves the list", list(x), list(full()));
            due("put leaves the order", order(x), order(full()));
            leavesAll("put of what is held there", Sentences::full, y -> y.put(0, 5, 3, 4));
        });
        test(2, "`place`: 0 to 15", () -> placesAreAlike((x, place) -> x.put(place, 7, 9, 8)));
        test(2, "`a`: a side, 1 to 65535", () -> {
            for (int a : new int[] {1, 2, 32767, 32768, 65534, 65535}) {
                Trigonyard x = new Trigonyard();
                due("put " + a, x.put(0, a, 65535, 65535), 1);
                due("put " + a, at(x, 0), a + " 65535 65535");
            }
        });
        test(2, "`b`: a side, 1 to 65535", () -> {
            for (int b : new int[] {1, 2, 32767, 32768, 65534, 65535}) {
                Trigonyard x = new Trigonyard();
                due("put " + b, x.put(0, 65535, b, 65535), 1);
                due("put " + b, at(x, 0), b + " 65535 65535");
            }
        });
        test(2, "`c`: a side, 1 to 65535, in any order", () -> {
            for (int c : new int[] {1, 2, 32767, 32768, 65534, 65535}) {
                Trigonyard x = new Trigonyard();
                due("put " + c, x.put(0, 65535, 65535, c), 1);
                due("put " + c, at(x, 0), c + " 65535 65535");
            }
            putInAllOrders(5, 6, 7);
            putInAllOrders(1, 1, 1);
            putInAllOrders(5, 5, 9);
            putInAllOrders(5, 9, 9);
            putInAllOrders(32768, 32769, 65535);
            putInAllOrders(65533, 65534, 65535);
        });
        test(2, "Returns how many triangles are held then.", () -> {
            Trigonyard x = new Trigonyard();
            for (int count = 1; count <= 16; count++) {
                int place = (7 * count) % 16;
                due("put number " + count, x.put(place, 3, 4, 5), count);
                due("put there again", x.put(place, 4, 4, 5), count);
            }
            x.take(15);
            due("put on fifteen", x.put(15, 2, 2, 2), 16);
        });
    }

    private void promise2PutRefused() {
        test(2, "Throws `IndexOutOfBoundsException` if there is no such place", () -> {
            otherPlacesAreRefused((x, place) -> x.put(place, 3, 4, 5));
            otherPlacesAreRefused((x, place) -> x.put(place, 0, 65536, -1));
            otherPlacesAreRefused((x, place) -> x.put(place, 1, 2, 3));
        });
        test(2, "Throws `IllegalArgumentException` if one of the sides is out of range", () -> {
            for (int length : NO_LENGTHS) {
                refusedAlways("put a " + length, ARGUMENT, x -> x.put(0, length, 65535, 65535));
                refusedAlways("put b " + length, ARGUMENT, x -> x.put(0, 65535, length, 65535));
                refusedAlways("put c " + length, ARGUMENT, x -> x.put(0, 65535, 65535, length));
                refusedAlways("put all " + length, ARGUMENT, x -> x.put(15, length, length, length));
                // Not less than the sum of the two others, too.
                refusedAlways("put flat a " + length, ARGUMENT, x -> x.put(0, length, 1, 1));
                refusedAlways("put flat b " + length, ARGUMENT, x -> x.put(0, 1, length, 1));
                refusedAlways("put flat c " + length, ARGUMENT, x -> x.put(0, 1, 1, length));
            }
        });
        test(2, "Throws `IllegalStateException` if one of them is not less than the sum of the two others", () -> {
            int[][] pairs = {{1, 1}, {1, 2}, {2, 2}, {3, 4}, {1, 65534}, {32767, 32768}, {1000, 2000}};
            for (int[] p : pairs) {
                int sum = p[0] + p[1];
                putInAllOrders(p[0], p[1], sum - 1);
                for (int length : new int[] {sum, Math.min(sum + 1, 65535), 65535}) {
                    refusedAlways("put c " + length, STATE, x -> x.put(0, p[0], p[1], length));
                    refusedAlways("put b " + length, STATE, x -> x.put(15, p[0], length, p[1]));
                    refusedAlways("put a " + length, STATE, x -> x.put(9, length, p[0], p[1]));
                }
            }
        });
    }

    private void promise3Take() {
        test(3, "Takes the triangle of a place away.", () -> {
            Trigonyard x = full();
            x.take(3);
            due("isHeld then", x.isHeld(3), false);
            x.put(3, 7, 24, 25);
            due("all with it again", told(x), told(full()));
        });
        test(3, "`place`: 0 to 15", () -> placesAreAlike((x, place) -> x.take(place)));
        test(3, "Returns how many triangles are held then.", () -> {
            Trigonyard x = full();
            for (int count = 15; count >= 0; count--) {
                due("take", x.take((count * 5 + 3) % 16), count);
            }
            due("then", places(x), places(fresh()));
            due("the list stays", list(x), list(full()));
            due("the order stays", order(x), order(full()));
        });
        test(3, "Throws `IndexOutOfBoundsException` if there is no such place",
                () -> otherPlacesAreRefused((x, place) -> x.take(place)));
        test(3, "Throws `NoSuchElementException` if none is held there",
                () -> refusedWhereNoneIs((x, place) -> x.take(place)));
    }

    private void promise4IsHeld() {
        test(4, "Tells whether a triangle is held at a place.", () -> {
            for (int place = 0; place < 16; place++) {
                int asked = place;
                leavesAll("isHeld", Sentences::busy, x -> x.isHeld(asked));
            }
        });
        test(4, "`place`: 0 to 15", () -> placesAreAlike((x, place) -> x.isHeld(place)));
        test(4, "Returns whether one is.", () -> {
            for (int place = 0; place < 16; place++) {
                due("isHeld on a busy one", busy().isHeld(place), place < 5);
                due("isHeld on a full one", full().isHeld(place), true);
                due("isHeld on a new one", fresh().isHeld(place), false);
            }
            Trigonyard x = busy();
            x.copy(0, 15);
            x.euclid(14, 2, 1);
            x.join(1, 1, 13);
            x.take(0);
            due("isHeld after copy", x.isHeld(15), true);
            due("isHeld after euclid", x.isHeld(14), true);
            due("isHeld after join", x.isHeld(13), true);
            due("isHeld after take", x.isHeld(0), false);
        });
        test(4, "Throws `IndexOutOfBoundsException` if there is no such place",
                () -> otherPlacesAreRefused((x, place) -> x.isHeld(place)));
    }

    private void promise5Side() {
        test(5, "Returns a side of a triangle.", () -> {
            for (int which = 0; which < 3; which++) {
                int asked = which;
                leavesAll("side", Sentences::full, x -> x.side(15, asked));
            }
        });
        test(5, "`place`: 0 to 15", () -> placesAreAlike((x, place) -> x.side(place, 0)));
        test(5, "`which`: 0 to 2, as told in Part 1", () -> {
            for (int[] o : ORDERS) {
                int[] sides = {9, 10, 17};
                Trigonyard x = holding(sides[o[0]], sides[o[1]], sides[o[2]]);
                due("shortest", x.side(0, 0), 9);
                due("next one", x.side(0, 1), 10);
                due("longest", x.side(0, 2), 17);
            }
        });
        test(5, "Returns its length.", () -> {
            Trigonyard x = holding(1, 1, 1, 65535, 1, 65535, 5, 8, 5, 65535, 65535, 65535);
            due("sides", at(x, 0), "1 1 1");
            due("sides", at(x, 1), "1 65535 65535");
            due("sides", at(x, 2), "5 5 8");
            due("sides", at(x, 3), "65535 65535 65535");
        });
        test(5, "Throws `IndexOutOfBoundsException` if there is no such place or which", () -> {
            otherPlacesAreRefused((x, place) -> x.side(place, 0));
            for (int which : NO_SIDES) {
                refusedAlways("side " + which, INDEX, x -> x.side(0, which));
                refusedAlways("side of the last place " + which, INDEX, x -> x.side(15, which));
                refusedAlways("side of no place " + which, INDEX, x -> x.side(16, which));
            }
        });
        test(5, "Throws `NoSuchElementException` if none is held there", () -> {
            for (int which = 0; which < 3; which++) {
                int asked = which;
                refusedWhereNoneIs((x, place) -> x.side(place, asked));
            }
        });
    }

    private void promise6Copy() {
        test(6, "Holds the triangle of a place at another one, too, in place of what is held there; it stays where it is.",
                () -> {
            Trigonyard x = full();
            x.copy(2, 13);
            due("there", at(x, 13), "8 15 17");
            due("and here", at(x, 2), "8 15 17");
            x.put(13, 36, 77, 85);
            due("the others", told(x), told(full()));
            x = busy();
            x.copy(0, 15);
            x.scale(0, 2);
            due("apart from the scaled one", at(x, 15), "13 14 15");
            x.take(0);
            due("apart from the taken one", at(x, 15), "13 14 15");
            x.copy(2, 14);
            x.reduce(14);
            due("apart from the reduced one", at(x, 2), "9 12 15");
            x.step(14, 'a');
            x.copy(14, 13);
            x.step(13, 'p');
            due("apart from the stepped one", at(x, 14) + ", " + at(x, 13), "5 12 13, 3 4 5");
            x.copy(14, 13);
            x.put(14, 1, 1, 1);
            due("apart from what is put where it was", at(x, 13), "5 12 13");
            leavesAll("copy to its own place", Sentences::full, y -> y.copy(15, 15));
        });
        test(6, "`place`: 0 to 15", () -> placesAreAlike((x, place) -> x.copy(place, place)));
        test(6, "`other`: 0 to 15", () -> {
            for (int other = 0; other < 16; other++) {
                Trigonyard x = holding(13, 14, 15);
                due("copy to " + other, x.copy(0, other), other == 0 ? 1 : 2);
                due("copy to " + other, at(x, other), "13 14 15");
            }
        });
        test(6, "Returns how many triangles are held then.", () -> {
            Trigonyard x = holding(13, 14, 15);
            due("copy to itself", x.copy(0, 0), 1);
            for (int other = 1; other < 16; other++) {
                due("copy to a free place", x.copy(other - 1, other), other + 1);
                due("copy over another", x.copy(other, other - 1), other + 1);
            }
        });
        test(6, "Throws `IndexOutOfBoundsException` if there is no such place", () -> {
            otherPlacesAreRefused((x, place) -> x.copy(place, 0));
            otherPlacesAreRefused((x, place) -> x.copy(0, place));
            otherPlacesAreRefused((x, place) -> x.copy(15, place));
            otherPlacesAreRefused((x, place) -> x.copy(place, place));
        });
        test(6, "Throws `NoSuchElementException` if none is held there", () -> {
            refusedWhereNoneIs((x, place) -> x.copy(place, (place + 1) % 16));
            refusedWhereNoneIs((x, place) -> x.copy(place, place));
        });
    }

    private void promise7Scale() {
        test(7, "Makes all sides of a triangle so many times as long.", () -> {
            Trigonyard x = full();
            x.scale(15, 3);
            due("scaled", at(x, 15), "195 216 291");
            x.reduce(15);
            due("the others", told(x), told(full()));
            leavesAll("scale by 1", Sentences::full, y -> y.scale(0, 1));
        });
        test(7, "`place`: 0 to 15", () -> placesAreAlike((x, place) -> x.scale(place, 64)));
        test(7, "`by`: 1 to 64", () -> {
            for (int by = 1; by <= 64; by++) {
                Trigonyard x = holding(4, 2, 3);
                due("scale by " + by, x.scale(0, by), 4 * by);
                due("scaled by " + by, at(x, 0), 2 * by + " " + 3 * by + " " + 4 * by);
            }
        });
        test(7, "Returns its longest side then.", () -> {
            due("scale by 1", busy().scale(0, 1), 15);
            due("scale by 2", busy().scale(0, 2), 30);
            due("scale the greatest", holding(65535, 1, 65535).scale(0, 1), 65535);
        });
    }

    private void promise7ScaleRefused() {
        test(7, "Throws `IndexOutOfBoundsException` if there is no such place", () -> {
            otherPlacesAreRefused((x, place) -> x.scale(place, 2));
            otherPlacesAreRefused((x, place) -> x.scale(place, 0));
            otherPlacesAreRefused((x, place) -> x.scale(place, 65));
        });
        test(7, "Throws `IllegalArgumentException` if the number is out of range", () -> {
            for (int by : new int[] {0, 65, 66, -1, -64, 65536, 65537, Integer.MIN_VALUE, Integer.MAX_VALUE}) {
                refusedAlways("scale by " + by, ARGUMENT, x -> x.scale(0, by));
                refused("scale none by " + by, Sentences::busy, ARGUMENT, x -> x.scale(15, by));
                // A side would be above 65535, too.
                refused("scale by " + by, () -> holding(65535, 65535, 65535), ARGUMENT, x -> x.scale(0, by));
            }
        });
        test(7, "Throws `NoSuchElementException` if none is held there", () -> {
            refusedWhereNoneIs((x, place) -> x.scale(place, 1));
            refusedWhereNoneIs((x, place) -> x.scale(place, 64));
        });
        test(7, "Throws `IllegalStateException` if a side would be above 65535", () -> {
            for (int by = 2; by <= 64; by++) {
                int times = by;
                int last = 65535 / by;
                due("scale the last one by " + by, holding(1, last, last).scale(0, by), last * by);
                refused("scale one longer by " + by, () -> holding(last + 1, last + 1, last + 1), STATE,
                        x -> x.scale(0, times));
                refused("scale one longer side by " + by, () -> holding(last, last + 1, 2), STATE,
                        x -> x.scale(0, times));
                refused("scale the greatest by " + by, () -> holding(1, 65535, 65535), STATE,
                        x -> x.scale(0, times));
            }
            due("scale to 65535", holding(1, 13107, 13107).scale(0, 5), 65535);
            refused("scale to 65536", () -> holding(1024, 1024, 1), STATE, x -> x.scale(0, 64));
        });
    }

    private void promise8Reduce() {
        test(8, "Divides all sides of a triangle by their greatest common divisor.", () -> {
            Trigonyard x = holding(12, 16, 20, 65535, 65535, 65535, 32767, 65534, 65534, 12, 12, 18, 62208, 62208, 31104);
            for (int place = 0; place < 5; place++) {
                x.reduce(place);
            }
            due("reduced", at(x, 0) + ", " + at(x, 1) + ", " + at(x, 2), "3 4 5, 1 1 1, 1 2 2");
            due("reduced", at(x, 3) + ", " + at(x, 4), "2 2 3, 1 2 2");
            due("the list stays", list(x), list(busy()));
            for (int times = 1; times <= 16383; times += times < 100 ? 1 : 181) {
                Trigonyard y = holding(2 * times, 3 * times, 4 * times);
                due("reduce of 2 3 4 times " + times, y.reduce(0), times);
                due("reduced from 2 3 4 times " + times, at(y, 0), "2 3 4");
            }
            leavesAll("reduce of one without a common divisor", Sentences::full, y -> y.reduce(15));
            leavesAll("reduce of 1, 1, 1", () -> holding(1, 1, 1), y -> y.reduce(0));
            leavesAll("reduce of one with common divisors of each two", () -> holding(6, 10, 15), y -> y.reduce(0));
        });
        test(8, "`place`: 0 to 15", () -> placesAreAlike((x, place) -> x.reduce(place)));
        test(8, "Returns this divisor.", () -> {
            due("reduce 13 14 15", busy().reduce(0), 1);
            due("reduce 9 12 15", busy().reduce(2), 3);
            due("reduce 7 7 7", busy().reduce(3), 7);
            due("reduce 1 1 1", holding(1, 1, 1).reduce(0), 1);
            due("reduce 6 10 15", holding(6, 10, 15).reduce(0), 1);
            due("reduce the greatest", holding(65535, 65535, 65535).reduce(0), 65535);
            due("reduce 1 65535 65535", holding(1, 65535, 65535).reduce(0), 1);
            due("reduce 65534 65535 65535", holding(65534, 65535, 65535).reduce(0), 1);
            due("reduce by the greatest of two", holding(32767, 65534, 65534).reduce(0), 32767);
            due("reduce neighbours of Fibonacci's", holding(28657, 46368, 46368).reduce(0), 1);
            Trigonyard x = holding(12, 16, 20);
            due("reduce", x.reduce(0), 4);
            due("reduce again", x.reduce(0), 1);
        });
        test(8, "Throws `IndexOutOfBoundsException` if there is no such place",
                () -> otherPlacesAreRefused((x, place) -> x.reduce(place)));
        test(8, "Throws `NoSuchElementException` if none is held there",
                () -> refusedWhereNoneIs((x, place) -> x.reduce(place)));
    }

    /** Joins two right triangles at the places 0 and 1 to place 9, in both orders. */
    private void dueOfJoin(String sides, int longest, int... two) {
        Trigonyard x = holding(two);
        due("join", x.join(0, 1, 9), longest);
        due("joined", at(x, 9), sides);
        due("join the other way", x.join(1, 0, 10), longest);
        due("joined the other way", at(x, 10), sides);
        x.take(9);
        x.take(10);
        due("what is joined stays", told(x), told(holding(two)));
    }

    private void promise9Join() {
        test(9, "Lays two right triangles together along the longest leg that both have (all of this leg, one on each"
                + " side of it); the triangle of their longest sides and the sum of the two other legs is held at a place,"
                + " in place of what is held there.", () -> {
            dueOfJoin("13 14 15", 15, 9, 12, 15, 5, 12, 13);
            dueOfJoin("17 25 28", 28, 8, 15, 17, 15, 20, 25);
            dueOfJoin("25 113 132", 132, 15, 20, 25, 15, 112, 113);
            // Both legs are the same: the longer one is the longest that both have.
            dueOfJoin("5 5 6", 6, 3, 4, 5, 3, 4, 5);
            dueOfJoin("40960 40960 49152", 49152, 24576, 32768, 40960, 24576, 32768, 40960);
            Trigonyard x = full();
            x.join(0, 0, 15);
            due("over another", at(x, 15), "5 5 6");
            x.put(15, 65, 72, 97);
            due("the others", told(x), told(full()));
        });
        test(9, "`place`: 0 to 15", () -> placesAreAlike((x, place) -> x.join(place, place, place)));
        test(9, "`other`: 0 to 15, it may be the same place", () -> {
            for (int other = 0; other < 16; other++) {
                Trigonyard x = new Trigonyard();
                x.put(0, 9, 12, 15);
                x.put(other, 5, 12, 13);
                due("join with " + other, x.join(0, other, 0), other == 0 ? 13 : 15);
                due("joined with " + other, at(x, 0), other == 0 ? "10 13 13" : "13 14 15");
            }
        });
        test(9, "`to`: 0 to 15, the place at which it is held", () -> {
            for (int to = 0; to < 16; to++) {
                Trigonyard x = holding(9, 12, 15, 5, 12, 13);
                due("join to " + to, x.join(0, 1, to), 15);
                due("joined at " + to, at(x, to), "13 14 15");
                due("the first one then", at(x, 0), to == 0 ? "13 14 15" : "9 12 15");
                due("the other one then", at(x, 1), to == 1 ? "13 14 15" : "5 12 13");
            }
        });
        test(9, "Returns its longest side.", () -> {
            due("the sum of two legs", holding(3, 4, 5).join(0, 0, 0), 6);
            due("the first one's longest", holding(9, 12, 15, 5, 12, 13).join(0, 1, 2), 15);
            due("the other one's longest", holding(9, 12, 15, 5, 12, 13).join(1, 0, 2), 15);
            due("up to 65535", holding(3380, 8463, 9113, 3380, 57072, 57172).join(0, 1, 2), 65535);
            due("up to 65535", holding(5180, 47775, 48055, 5180, 17760, 18500).join(0, 1, 0), 65535);
        });
    }

    private void refusedJoin(String what, int... two) {
        refused(what, () -> holding(two), STATE, x -> x.join(0, 1, 9));
        refused(what + ", the other way", () -> holding(two), STATE, x -> x.join(1, 0, 9));
        refused(what + ", to one of them", () -> holding(two), STATE, x -> x.join(0, 1, 1));
        refused(what + ", to the first of them", () -> holding(two), STATE, x -> x.join(0, 1, 0));
    }

    private void promise9JoinRefused() {
        test(9, "Throws `IndexOutOfBoundsException` if there is no such place", () -> {
            otherPlacesAreRefused((x, place) -> x.join(place, 0, 0));
            otherPlacesAreRefused((x, place) -> x.join(0, place, 0));
            otherPlacesAreRefused((x, place) -> x.join(0, 0, place));
            otherPlacesAreRefused((x, place) -> x.join(15, 15, place));
            otherPlacesAreRefused((x, place) -> x.join(place, place, place));
        });
        test(9, "Throws `NoSuchElementException` if none is held at one of the two", () -> {
            refusedWhereNoneIs((x, place) -> x.join(place, (place + 1) % 16, 0));
            refusedWhereNoneIs((x, place) -> x.join((place + 1) % 16, place, 0));
            refusedWhereNoneIs((x, place) -> x.join(place, place, place));
            refused("join one that is not right with none", Sentences::busy, NONE, x -> x.join(0, 15, 9));
            refused("join none with one that is not right", Sentences::busy, NONE, x -> x.join(15, 0, 9));
        });
        test(9, "Throws `IllegalStateException` if one of these is not right, or they have no leg of the same length,"
                + " or a side would be above 65535", () -> {
            refusedJoin("one is acute", 4, 4, 4, 3, 4, 5);
            refusedJoin("one is obtuse", 4, 4, 6, 3, 4, 5);
            refusedJoin("both are acute", 4, 4, 4, 4, 4, 5);
            refused("one, not right, with itself", Sentences::busy, STATE, x -> x.join(0, 0, 0));
            refusedJoin("no leg of the same length", 3, 4, 5, 8, 15, 17);
            refusedJoin("the longest sides are the same", 16, 63, 65, 33, 56, 65);
            refusedJoin("a leg is the other one's longest side", 3, 4, 5, 5, 12, 13);
            refusedJoin("multiples of each other", 3, 4, 5, 33, 44, 55);
            // 65536 and 65537 are no sums of two such legs.
            refusedJoin("a side of 65538", 1620, 10875, 10995, 1620, 54663, 54687);
            refusedJoin("a side of 65538", 5292, 819, 5355, 5292, 64719, 64935);
            refusedJoin("a side far above", 8160, 64769, 65281, 8160, 65025, 65535);
        });
    }
}
