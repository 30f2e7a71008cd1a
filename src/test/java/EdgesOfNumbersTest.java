import java.io.IOException;
import java.math.BigDecimal;
import java.math.BigInteger;

/** Promises 10 to 21, sentence by sentence, at their edges. */
public final class EdgesOfNumbersTest extends Sentences {
    private static final long GREATEST = 8589672450L;

    /** Short and long ones, flat ones, and those whose S lies next to a power of 2 on either side, or on it. */
    private static final int[][] SOME = {{1, 1, 1}, {1, 2, 2}, {2, 2, 3}, {3, 4, 5}, {2, 3, 3}, {13, 14, 15},
        {1, 65535, 65535}, {2, 65534, 65535}, {32768, 32768, 65535}, {21846, 43690, 65535}, {65534, 65535, 65535},
        {65535, 65535, 65535}, {361, 65160, 65161}, {46340, 46341, 65535},
        {48, 48, 32}, {384, 384, 256}, {3072, 3072, 2048}, {24576, 24576, 16384},
        {26661, 26387, 22312}, {51594, 51404, 10481}, {61891, 61804, 12338}, {55144, 55031, 13894},
        {37618, 37320, 31607}, {38829, 38657, 30072}, {49279, 49023, 32770}, {49152, 49152, 32768},
        {64126, 63728, 24194}, {52789, 52604, 45086}, {54779, 54510, 42692}, {62873, 62614, 53514},
        {62312, 62226, 54163}, {65501, 65082, 64843}, {65535, 65535, 64974}};

    private EdgesOfNumbersTest() throws IOException {
        super("edges of numbers", 10, 21);
    }

    public static void main(String[] args) throws IOException {
        EdgesOfNumbersTest t = new EdgesOfNumbersTest();
        t.promise10Kind();
        t.promise11Angle();
        t.promise12AreaIsWhole();
        t.promise13Area();
        t.promise14Circle();
        t.promise14CircleRefused();
        t.promise15CompareAreas();
        t.promise16Product();
        t.promise17Bits();
        t.promise18Hypot();
        t.promise19Root();
        t.promise20Shape();
        t.promise21Mean();
        t.end();
    }

    private static BigInteger dueS(int[] t) {
        long a = t[0];
        long b = t[1];
        long c = t[2];
        BigInteger s = BigInteger.valueOf(a + b + c).multiply(BigInteger.valueOf(b + c - a));
        return s.multiply(BigInteger.valueOf(a + c - b)).multiply(BigInteger.valueOf(a + b - c));
    }

    private void dueOfKind(int want, int... sides) {
        due("kind of " + at(holding(sides), 0), holding(sides).kind(0), want);
    }

    private void promise10Kind() {
        test(10, "Tells what sort of triangle it is.", () -> {
            for (int place = 0; place < 5; place++) {
                int asked = place;
                leavesAll("kind", Sentences::busy, x -> x.kind(asked));
            }
        });
        test(10, "`place`: 0 to 15", () -> placesAreAlike((x, place) -> x.kind(place)));
        test(10, "Returns -1 for an obtuse one, the square of whose longest side is above the sum of those of the two"
                + " others, 0 for a right one, 1 for an acute one, where it is below.", () -> {
            dueOfKind(0, 3, 4, 5);
            dueOfKind(0, 65160, 361, 65161);
            dueOfKind(0, 13107 * 4, 13107 * 3, 65535);
            // Next to a right one: the squares differ by 1.
            dueOfKind(-1, 2, 2, 3);
            dueOfKind(1, 4, 7, 8);
            dueOfKind(1, 36765, 54251, 65535);
            dueOfKind(1, 1, 65535, 65535);
            dueOfKind(-1, 362, 65522, 65523);
            dueOfKind(-1, 6518, 65198, 65523);
            // Far from one.
            dueOfKind(1, 1, 1, 1);
            dueOfKind(1, 65535, 65535, 65535);
            dueOfKind(-1, 32768, 32768, 65535);
            dueOfKind(-1, 2, 65534, 65535);
        });
        test(10, "Throws `IndexOutOfBoundsException` if there is no such place",
                () -> otherPlacesAreRefused((x, place) -> x.kind(place)));
        test(10, "Throws `NoSuchElementException` if none is held there",
                () -> refusedWhereNoneIs((x, place) -> x.kind(place)));
    }

    private void dueOfAngles(String want, int... sides) {
        Trigonyard x = holding(sides);
        due("angles of " + at(x, 0), x.angle(0, 0) + " " + x.angle(0, 1) + " " + x.angle(0, 2), want);
    }

    private void promise11Angle() {
        test(11, "Tells an angle of a triangle.", () -> {
            for (int which = 0; which < 3; which++) {
                int asked = which;
                leavesAll("angle", Sentences::full, x -> x.angle(15, asked));
            }
        });
        test(11, "`place`: 0 to 15", () -> placesAreAlike((x, place) -> x.angle(place, 2)));
        test(11, "`which`: 0 to 2, the side that lies opposite to it", () -> {
            dueOfAngles("0 0 90", 5, 3, 4);
            dueOfAngles("0 60 0", 8, 5, 7);
            dueOfAngles("0 0 120", 7, 5, 3);
            dueOfAngles("60 60 60", 9, 9, 9);
        });
        test(11, "Returns 60, 90 or 120, if it has just so many degrees, otherwise 0.", () -> {
            dueOfAngles("60 60 60", 1, 1, 1);
            dueOfAngles("60 60 60", 65535, 65535, 65535);
            dueOfAngles("0 60 0", 65535, 511, 65281);
            dueOfAngles("0 60 0", 65024, 65535, 65281);
            dueOfAngles("0 0 120", 27665, 47151, 65521);
            dueOfAngles("0 0 90", 9747, 64796, 65525);
            // What is told of the squares is 1 from the due one.
            dueOfAngles("0 0 0", 26916, 57054, 65533);
            dueOfAngles("0 0 0", 26402, 57098, 65521);
            dueOfAngles("0 0 0", 30775, 44480, 65532);
            dueOfAngles("0 0 0", 7244, 61604, 65527);
            dueOfAngles("0 0 0", 36765, 54251, 65535);
            dueOfAngles("0 0 0", 362, 65522, 65523);
            dueOfAngles("0 0 0", 65534, 65535, 65535);
            dueOfAngles("0 0 0", 65534, 65534, 65535);
            dueOfAngles("0 0 0", 1, 65535, 65535);
            dueOfAngles("0 0 0", 32768, 32768, 65535);
            dueOfAngles("0 0 0", 2, 2, 3);
        });
        test(11, "Throws `IndexOutOfBoundsException` if there is no such place or which", () -> {
            otherPlacesAreRefused((x, place) -> x.angle(place, 0));
            for (int which : NO_SIDES) {
                refusedAlways("angle " + which, INDEX, x -> x.angle(0, which));
                refusedAlways("angle of the last place " + which, INDEX, x -> x.angle(15, which));
                refusedAlways("angle of no place " + which, INDEX, x -> x.angle(-1, which));
            }
        });
        test(11, "Throws `NoSuchElementException` if none is held there", () -> {
            for (int which = 0; which < 3; which++) {
                int asked = which;
                refusedWhereNoneIs((x, place) -> x.angle(place, asked));
            }
        });
    }

    private void dueOfAreaIsWhole(boolean want, int... sides) {
        due("areaIsWhole of " + at(holding(sides), 0), holding(sides).areaIsWhole(0), want);
    }

    private void promise12AreaIsWhole() {
        test(12, "Tells whether the area of a triangle is a whole number.", () -> {
            for (int place = 0; place < 5; place++) {
                int asked = place;
                leavesAll("areaIsWhole", Sentences::busy, x -> x.areaIsWhole(asked));
            }
        });
        test(12, "`place`: 0 to 15", () -> placesAreAlike((x, place) -> x.areaIsWhole(place)));
        test(12, "Returns whether it is.", () -> {
            dueOfAreaIsWhole(true, 3, 4, 5);
            dueOfAreaIsWhole(true, 5, 5, 6);
            dueOfAreaIsWhole(true, 51, 52, 101);
            dueOfAreaIsWhole(true, 65535, 65535, 64974);
            dueOfAreaIsWhole(true, 25585, 37024, 62607);
            // S is 1 below a square of twenty digits, or near one.
            dueOfAreaIsWhole(false, 65501, 65082, 64843);
            dueOfAreaIsWhole(false, 65528, 65251, 64885);
            dueOfAreaIsWhole(false, 65534, 65492, 64896);
            dueOfAreaIsWhole(false, 65535, 65535, 65535);
            dueOfAreaIsWhole(false, 1, 1, 1);
            dueOfAreaIsWhole(false, 1, 65535, 65535);
            dueOfAreaIsWhole(false, 32768, 32768, 65535);
            // S is a power of 2, and no square.
            dueOfAreaIsWhole(false, 49152, 49152, 32768);
            dueOfAreaIsWhole(false, 3, 3, 2);
        });
        test(12, "Throws `IndexOutOfBoundsException` if there is no such place",
                () -> otherPlacesAreRefused((x, place) -> x.areaIsWhole(place)));
        test(12, "Throws `NoSuchElementException` if none is held there",
                () -> refusedWhereNoneIs((x, place) -> x.areaIsWhole(place)));
    }

    private void dueOfArea(long want, int... sides) {
        due("area of " + at(holding(sides), 0), holding(sides).area(0), want);
    }

    private void promise13Area() {
        test(13, "Returns the area of a triangle.", () -> {
            leavesAll("area of the first", Sentences::full, x -> x.area(0));
            leavesAll("area of the last", Sentences::full, x -> x.area(15));
        });
        test(13, "`place`: 0 to 15", () -> placesAreAlike((x, place) -> x.area(place)));
        test(13, "Returns the area.", () -> {
            dueOfArea(6, 3, 4, 5);
            dueOfArea(12, 5, 5, 6);
            dueOfArea(12, 5, 5, 8);
            dueOfArea(510, 51, 52, 101);
            dueOfArea(84, 15, 14, 13);
            dueOfArea(361L * 32580, 361, 65160, 65161);
            dueOfArea(7700784, 25585, 37024, 62607);
            dueOfArea(1849030092, 65535, 65535, 64974);
            dueOfArea(13107L * 13107 * 6, 3 * 13107, 4 * 13107, 65535);
        });
        test(13, "Throws `IndexOutOfBoundsException` if there is no such place",
                () -> otherPlacesAreRefused((x, place) -> x.area(place)));
        test(13, "Throws `NoSuchElementException` if none is held there",
                () -> refusedWhereNoneIs((x, place) -> x.area(place)));
        test(13, "Throws `IllegalStateException` if it is no whole number", () -> {
            int[][] none = {{1, 1, 1}, {2, 2, 3}, {2, 2, 2}, {3, 3, 2}, {65535, 65535, 65535}, {65501, 65082, 64843},
                {65528, 65251, 64885}, {49152, 49152, 32768}, {1, 65535, 65535}, {32768, 32768, 65535}};
            for (int[] sides : none) {
                refused("area of " + at(holding(sides), 0), () -> holding(sides), STATE, x -> x.area(0));
            }
        });
    }

    private void dueOfCircles(long radius, long diameter, int... sides) {
        Trigonyard x = holding(sides);
        due("circle i of " + at(x, 0), x.circle(0, 'i'), radius);
        due("circle o of " + at(x, 0), x.circle(0, 'o'), diameter);
    }

    private void promise14Circle() {
        test(14, "Tells of the circles of a triangle.", () -> {
            leavesAll("circle i", Sentences::full, x -> x.circle(15, 'i'));
            leavesAll("circle o", Sentences::full, x -> x.circle(0, 'o'));
        });
        test(14, "`place`: 0 to 15", () -> {
            placesAreAlike((x, place) -> x.circle(place, 'i'));
            placesAreAlike((x, place) -> x.circle(place, 'o'));
        });
        test(14, "`what`: i the radius of the inner circle, o the diameter of the outer circle", () -> {
            dueOfCircles(1, 5, 3, 4, 5);
            dueOfCircles(2, 25, 7, 15, 20);
            dueOfCircles(16, 65, 52, 56, 60);
        });
        test(14, "Returns the length.", () -> {
            dueOfCircles(4, 25, 15, 15, 24);
            dueOfCircles(180, 65161, 361, 65160, 65161);
            dueOfCircles(13107, 65535, 3 * 13107, 4 * 13107, 65535);
            due("circle o above 65535", holding(25585, 37024, 62607).circle(0, 'o'), 3850585L);
            due("circle i near 65535", holding(65520, 65184, 64848).circle(0, 'i'), 18816L);
        });
    }

    private void refusedCircle(char what, int... sides) {
        refused("circle " + what + " of " + at(holding(sides), 0), () -> holding(sides), STATE, x -> x.circle(0, what));
    }

    private void promise14CircleRefused() {
        test(14, "Throws `IndexOutOfBoundsException` if there is no such place", () -> {
            otherPlacesAreRefused((x, place) -> x.circle(place, 'i'));
            otherPlacesAreRefused((x, place) -> x.circle(place, 'o'));
            otherPlacesAreRefused((x, place) -> x.circle(place, 'x'));
        });
        test(14, "Throws `IllegalArgumentException` if there is nothing such", () -> {
            otherSignsAreRefused("io", (x, what) -> x.circle(0, what));
            refused("circle x of one without whole lengths", () -> holding(2, 2, 3), ARGUMENT, x -> x.circle(0, 'x'));
        });
        test(14, "Throws `NoSuchElementException` if none is held there", () -> {
            refusedWhereNoneIs((x, place) -> x.circle(place, 'i'));
            refusedWhereNoneIs((x, place) -> x.circle(place, 'o'));
        });
        test(14, "Throws `IllegalStateException` if it is no whole number", () -> {
            // The area is whole, the radius 3 / 2, 4 / 3 or whole, the diameter 25 / 4, 25 / 3, 25 / 2 or 65 / 4.
            refusedCircle('i', 5, 5, 6);
            refusedCircle('i', 5, 5, 8);
            refusedCircle('i', 4, 13, 15);
            refusedCircle('o', 5, 5, 6);
            refusedCircle('o', 5, 5, 8);
            refusedCircle('o', 10, 10, 12);
            refusedCircle('o', 13, 14, 15);
            due("circle i where o is none", holding(13, 14, 15).circle(0, 'i'), 4L);
            due("circle i where o is none", holding(10, 10, 12).circle(0, 'i'), 3L);
            int[][] none = {{1, 1, 1}, {2, 2, 3}, {2, 2, 2}, {3, 3, 2}, {65535, 65535, 65535}, {65501, 65082, 64843},
                {49152, 49152, 32768}, {1, 65535, 65535}, {32768, 32768, 65535}};
            for (int[] sides : none) {
                refusedCircle('i', sides);
                refusedCircle('o', sides);
            }
        });
    }

    private void dueOfAreas(int want, int... two) {
        Trigonyard x = holding(two);
        due("compareAreas of " + at(x, 0) + " and " + at(x, 1), x.compareAreas(0, 1), want);
        due("compareAreas of " + at(x, 1) + " and " + at(x, 0), x.compareAreas(1, 0), -want);
    }

    private void promise15CompareAreas() {
        test(15, "Compares the areas of two triangles.", () -> {
            leavesAll("compareAreas", Sentences::full, x -> x.compareAreas(0, 15));
            leavesAll("compareAreas", Sentences::busy, x -> x.compareAreas(4, 3));
        });
        test(15, "`place`: 0 to 15", () -> {
            placesAreAlike((x, place) -> x.compareAreas(place, place));
            for (int place = 0; place < 16; place++) {
                due("compareAreas of " + place, full().compareAreas(place, 0), place == 0 ? 0 : 1);
            }
        });
        test(15, "`other`: 0 to 15", () -> {
            for (int other = 0; other < 16; other++) {
                due("compareAreas with " + other, full().compareAreas(0, other), other == 0 ? 0 : -1);
            }
        });
        test(15, "Returns -1, 0 or 1, as the first one is less than the other one, the same, or more.", () -> {
            dueOfAreas(0, 5, 5, 6, 8, 5, 5);
            dueOfAreas(0, 1, 1, 1, 1, 1, 1);
            dueOfAreas(-1, 1, 1, 1, 1, 2, 2);
            dueOfAreas(-1, 1, 1, 1, 65535, 65535, 65535);
            dueOfAreas(-1, 65534, 65535, 65535, 65535, 65535, 65535);
            // S has 66 binary digits here, and is the same or nearly the same.
            dueOfAreas(0, 65368, 65285, 65203, 65378, 65258, 65220);
            dueOfAreas(0, 65407, 65248, 65207, 65409, 65234, 65219);
            dueOfAreas(-1, 65465, 65424, 65363, 65524, 65491, 65238);
            dueOfAreas(-1, 65418, 65394, 65362, 65481, 65476, 65218);
            // The first S is below 2 to the 63rd, 64th or 65th, the second one above it.
            dueOfAreas(-1, 49279, 49023, 32770, 49152, 49152, 32768);
            dueOfAreas(-1, 49152, 49152, 32768, 64126, 63728, 24194);
            dueOfAreas(-1, 52789, 52604, 45086, 54779, 54510, 42692);
            dueOfAreas(-1, 62873, 62614, 53514, 62312, 62226, 54163);
            for (int[] one : SOME) {
                for (int[] other : SOME) {
                    dueOfAreas(dueS(one).compareTo(dueS(other)), one[0], one[1], one[2], other[0], other[1], other[2]);
                }
            }
        });
        test(15, "Throws `IndexOutOfBoundsException` if there is no such place", () -> {
            otherPlacesAreRefused((x, place) -> x.compareAreas(place, 0));
            otherPlacesAreRefused((x, place) -> x.compareAreas(0, place));
            otherPlacesAreRefused((x, place) -> x.compareAreas(15, place));
            otherPlacesAreRefused((x, place) -> x.compareAreas(place, place));
        });
        test(15, "Throws `NoSuchElementException` if none is held at one of the two", () -> {
            refusedWhereNoneIs((x, place) -> x.compareAreas(place, (place + 1) % 16));
            refusedWhereNoneIs((x, place) -> x.compareAreas((place + 1) % 16, place));
            refusedWhereNoneIs((x, place) -> x.compareAreas(place, place));
        });
    }

    private void promise16Product() {
        test(16, "Returns the S of a triangle, wrapped as for long.", () -> {
            due("product below 2 to the 63rd", holding(49279, 49023, 32770).product(0), Long.MAX_VALUE - 2097151);
            due("product of 2 to the 63rd", holding(49152, 49152, 32768).product(0), Long.MIN_VALUE);
            due("product above 2 to the 63rd", holding(64126, 63728, 24194).product(0), Long.MIN_VALUE + 40701952);
            due("product below 2 to the 64th", holding(52789, 52604, 45086).product(0), -80526553L);
            due("product above 2 to the 64th", holding(54779, 54510, 42692).product(0), 51050855L);
            due("product below 2 to the 65th", holding(62873, 62614, 53514).product(0), -407008337L);
            due("product above 2 to the 65th", holding(62312, 62226, 54163).product(0), 249359143L);
            for (int place = 0; place < 5; place++) {
                int asked = place;
                leavesAll("product", Sentences::busy, x -> x.product(asked));
            }
        });
        test(16, "`place`: 0 to 15", () -> placesAreAlike((x, place) -> x.product(place)));
        test(16, "Returns its lowest 64 binary digits, as a long.", () -> {
            due("product of the least", holding(1, 1, 1).product(0), 3L);
            for (int[] sides : SOME) {
                due("product of " + at(holding(sides), 0), holding(sides).product(0), dueS(sides).longValue());
            }
        });
        test(16, "Throws `IndexOutOfBoundsException` if there is no such place",
                () -> otherPlacesAreRefused((x, place) -> x.product(place)));
        test(16, "Throws `NoSuchElementException` if none is held there",
                () -> refusedWhereNoneIs((x, place) -> x.product(place)));
    }

    private void promise17Bits() {
        test(17, "Returns how many binary digits the S of a triangle has.", () -> {
            for (int[] sides : SOME) {
                due("bits of " + at(holding(sides), 0), holding(sides).bits(0), dueS(sides).bitLength());
            }
            for (int place = 0; place < 5; place++) {
                int asked = place;
                leavesAll("bits", Sentences::busy, x -> x.bits(asked));
            }
        });
        test(17, "`place`: 0 to 15", () -> placesAreAlike((x, place) -> x.bits(place)));
        test(17, "Returns how many, without noughts ahead.", () -> {
            due("bits of 3", holding(1, 1, 1).bits(0), 2);
            due("bits of 15", holding(1, 2, 2).bits(0), 4);
            // S is 128 times the fourth power of a power of 2.
            for (int half = 0; half < 15; half++) {
                int power = 1 << half;
                due("bits of a power", holding(3 * power, 3 * power, 2 * power).bits(0), 8 + 4 * half);
            }
            due("bits below 2 to the 60th", holding(26661, 26387, 22312).bits(0), 60);
            due("bits above 2 to the 60th", holding(51594, 51404, 10481).bits(0), 61);
            due("bits below 2 to the 63rd", holding(49279, 49023, 32770).bits(0), 63);
            due("bits of 2 to the 63rd", holding(49152, 49152, 32768).bits(0), 64);
            due("bits below 2 to the 64th", holding(52789, 52604, 45086).bits(0), 64);
            due("bits above 2 to the 64th", holding(54779, 54510, 42692).bits(0), 65);
            due("bits below 2 to the 65th", holding(62873, 62614, 53514).bits(0), 65);
            due("bits above 2 to the 65th", holding(62312, 62226, 54163).bits(0), 66);
            due("bits of the greatest", holding(65535, 65535, 65535).bits(0), 66);
        });
        test(17, "Throws `IndexOutOfBoundsException` if there is no such place",
                () -> otherPlacesAreRefused((x, place) -> x.bits(place)));
        test(17, "Throws `NoSuchElementException` if none is held there",
                () -> refusedWhereNoneIs((x, place) -> x.bits(place)));
    }

    private void promise18Hypot() {
        test(18, "Returns hypot() of two sides of a triangle.", () -> {
            due("hypot of the legs", holding(4, 5, 3).hypot(0, 0, 1), 5.0);
            due("hypot of the longest two", holding(4, 5, 3).hypot(0, 2, 1), StrictMath.hypot(5, 4));
            leavesAll("hypot", Sentences::full, x -> x.hypot(15, 0, 2));
        });
        test(18, "`place`: 0 to 15", () -> placesAreAlike((x, place) -> x.hypot(place, 0, 1)));
        test(18, "`one`: 0 to 2", () -> {
            for (int one = 0; one < 3; one++) {
                due("hypot " + one, holding(9, 40, 42).hypot(0, one, 0), StrictMath.hypot(new int[] {9, 40, 42}[one], 9));
            }
        });
        test(18, "`other`: 0 to 2, it may be the same", () -> {
            for (int other = 0; other < 3; other++) {
                double side = new int[] {9, 40, 42}[other];
                due("hypot 2, " + other, holding(9, 40, 42).hypot(0, 2, other), StrictMath.hypot(42, side));
                due("hypot of the same", holding(9, 40, 42).hypot(0, other, other), StrictMath.hypot(side, side));
            }
        });
        test(18, "Returns what StrictMath tells.", () -> {
            for (int[] sides : SOME) {
                for (int two = 0; two < 9; two++) {
                    Trigonyard x = holding(sides);
                    double want = StrictMath.hypot(x.side(0, two / 3), x.side(0, two % 3));
                    due("hypot of " + at(x, 0) + ", " + two / 3 + " and " + two % 3, x.hypot(0, two / 3, two % 3), want);
                }
            }
        });
        test(18, "Throws `IndexOutOfBoundsException` if there is no such place or side", () -> {
            otherPlacesAreRefused((x, place) -> x.hypot(place, 0, 0));
            for (int which : NO_SIDES) {
                refusedAlways("hypot one " + which, INDEX, x -> x.hypot(0, which, 0));
                refusedAlways("hypot other " + which, INDEX, x -> x.hypot(0, 2, which));
                refusedAlways("hypot of the last place " + which, INDEX, x -> x.hypot(15, which, 2));
                refusedAlways("hypot of the last place, other " + which, INDEX, x -> x.hypot(15, 0, which));
                refusedAlways("hypot of no place " + which, INDEX, x -> x.hypot(16, which, which));
            }
        });
        test(18, "Throws `NoSuchElementException` if none is held there",
                () -> refusedWhereNoneIs((x, place) -> x.hypot(place, 2, 2)));
    }

    private void dueOfRoot(long number) {
        due("root of " + number, fresh().root(number), StrictMath.sqrt((double) number));
    }

    private void promise19Root() {
        test(19, "Returns sqrt() of a whole number.", () -> {
            due("root of 0", fresh().root(0), 0.0);
            due("root of 1", fresh().root(1), 1.0);
            due("root of 2", fresh().root(2), 1.4142135623730951);
            due("root of a square", fresh().root(65535L * 65535), 65535.0);
            due("root of the greatest square", fresh().root(92680L * 92680), 92680.0);
            leavesAll("root", Sentences::full, x -> x.root(7));
        });
        test(19, "`number`: 0 to 8589672450", () -> {
            dueOfRoot(0);
            dueOfRoot(1);
            dueOfRoot(GREATEST - 1);
            dueOfRoot(GREATEST);
        });
        test(19, "Returns what StrictMath tells.", () -> {
            for (long root = 1; root <= 92680; root += root < 300 ? 1 : 59) {
                dueOfRoot(root * root - 1);
                dueOfRoot(root * root);
                dueOfRoot(Math.min(root * root + 1, GREATEST));
            }
            for (int digits = 1; digits <= 32; digits++) {
                dueOfRoot((1L << digits) - 1);
                dueOfRoot(1L << digits);
                dueOfRoot((1L << digits) + 1);
            }
        });
        test(19, "Throws `IllegalArgumentException` if it is out of range", () -> {
            long[] none = {-1, GREATEST + 1, -2, 1L << 33, 1L << 53, -GREATEST, Long.MIN_VALUE, Long.MAX_VALUE,
                Integer.MIN_VALUE};
            for (long number : none) {
                refusedAlways("root of " + number, ARGUMENT, x -> x.root(number));
            }
        });
    }

    /** No float lies nearer to the quotient, told by decimal numbers of many digits. */
    private void dueOfShape(int... sides) {
        Trigonyard x = holding(sides);
        float told = x.shape(0);
        BigDecimal quotient = new BigDecimal(x.side(0, 0)).divide(new BigDecimal(x.side(0, 2)),
                new java.math.MathContext(60));
        BigDecimal off = quotient.subtract(new BigDecimal(told)).abs();
        for (float beside : new float[] {Math.nextUp(told), Math.nextDown(told)}) {
            if (quotient.subtract(new BigDecimal(beside)).abs().compareTo(off) < 0) {
                fault("shape of " + at(x, 0) + " answered " + told + ", nearer is " + beside);
            }
        }
    }

    private void promise20Shape() {
        test(20, "Returns the shortest side of a triangle divided by its longest one.", () -> {
            due("shape of 3 4 5", holding(5, 4, 3).shape(0), 0.6f);
            due("shape of all the same", holding(7, 7, 7).shape(0), 1.0f);
            due("shape of the greatest", holding(65535, 65535, 65535).shape(0), 1.0f);
            due("shape of the flattest", holding(65535, 65535, 1).shape(0), 1.0f / 65535.0f);
            leavesAll("shape", Sentences::full, x -> x.shape(0));
        });
        test(20, "`place`: 0 to 15", () -> placesAreAlike((x, place) -> x.shape(place)));
        test(20, "Returns the float that is nearest to it.", () -> {
            for (int[] sides : SOME) {
                dueOfShape(sides);
            }
            for (int longest = 2; longest <= 65535; longest = longest * 9 / 8 + 1) {
                for (int shortest = 1; shortest <= longest; shortest = shortest * 3 / 2 + 1) {
                    dueOfShape(shortest, longest, longest);
                }
            }
        });
        test(20, "Throws `IndexOutOfBoundsException` if there is no such place",
                () -> otherPlacesAreRefused((x, place) -> x.shape(place)));
        test(20, "Throws `NoSuchElementException` if none is held there",
                () -> refusedWhereNoneIs((x, place) -> x.shape(place)));
    }

    private void promise21Mean() {
        test(21, "Returns the mean of the circumferences of all triangles that are held.", () -> {
            placesAreAlike((x, place) -> x.mean());
            due("mean of one", holding(3, 4, 5).mean(), 12.0);
            due("mean of the least", holding(1, 1, 1).mean(), 3.0);
            due("mean of two", holding(3, 4, 5, 1, 1, 1).mean(), 7.5);
            leavesAll("mean", Sentences::full, x -> x.mean());
            leavesAll("mean of none", Sentences::fresh, x -> x.mean());
        });
        test(21, "Returns their sum divided by how many they are, as doubles; 0 if none is held.", () -> {
            due("mean of none", fresh().mean(), 0.0);
            due("mean of three", holding(1, 1, 1, 1, 1, 1, 1, 2, 2).mean(), 11.0 / 3.0);
            Trigonyard x = fresh();
            for (int count = 1; count <= 16; count++) {
                x.put((count * 3) % 16, 65535, 65535, 65535 - (count == 1 ? 1 : 0));
                due("mean of " + count + " long ones", x.mean(), (196605.0 * count - 1.0) / count);
            }
            for (int place = 0; place < 16; place++) {
                x.take(place);
            }
            due("mean after the last take", x.mean(), 0.0);
        });
    }
}
