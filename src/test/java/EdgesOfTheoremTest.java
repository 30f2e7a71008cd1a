import java.io.IOException;

/** Promises 32 to 36, sentence by sentence, at their edges. */
public final class EdgesOfTheoremTest extends Sentences {
    private static final long GREATEST = 8589672450L;

    private EdgesOfTheoremTest() throws IOException {
        super("edges of the theorem", 32, 36);
    }

    public static void main(String[] args) throws IOException {
        EdgesOfTheoremTest t = new EdgesOfTheoremTest();
        t.promise32IsTrue();
        t.promise33RootIsTrue();
        t.promise34HypotIsTrue();
        t.promise35ListIsTrue();
        t.promise36CountIsTrue();
        t.end();
    }

    private void promise32IsTrue() {
        test(32, "Tries the theorem, (2) with its sides, two by two, (3), (4), and, as far as they are about it, (5) and (6),"
                + " on a triangle.", () -> {
            for (int place = 0; place < 16; place++) {
                int asked = place;
                leavesAll("isTrue", Sentences::full, x -> x.isTrue(asked));
            }
        });
        test(32, "`place`: 0 to 15", () -> placesAreAlike((x, place) -> x.isTrue(place)));
        test(32, "Returns whether all is so.", () -> {
            // Obtuse, right and acute, with all sides the same, with S next to a square or a power of 2, and so on.
            int[][] some = {{1, 1, 1}, {1, 2, 2}, {2, 2, 3}, {3, 3, 2}, {3, 4, 5}, {6, 8, 10}, {4, 7, 8}, {13, 14, 15},
                {1, 65535, 65535}, {2, 65534, 65535}, {32768, 32768, 65535}, {65535, 65535, 65535},
                {65534, 65535, 65535}, {361, 65160, 65161}, {510, 65024, 65026}, {39321, 52428, 65535},
                {11220, 64541, 65509}, {9747, 64796, 65525}, {43053, 49396, 65525}, {36765, 54251, 65535},
                {362, 65522, 65523}, {49152, 49152, 32768}, {49279, 49023, 32770}, {64126, 63728, 24194},
                {54779, 54510, 42692}, {62312, 62226, 54163}, {65501, 65082, 64843}, {65535, 65535, 64974},
                {25585, 37024, 62607}, {65520, 65184, 64848}, {46340, 46341, 65535}, {46341, 46341, 65535}};
            for (int[] sides : some) {
                due("isTrue of " + at(holding(sides), 0), holding(sides).isTrue(0), true);
            }
        });
        test(32, "Throws `IndexOutOfBoundsException` if there is no such place",
                () -> otherPlacesAreRefused((x, place) -> x.isTrue(place)));
        test(32, "Throws `NoSuchElementException` if none is held there",
                () -> refusedWhereNoneIs((x, place) -> x.isTrue(place)));
    }

    private void promise33RootIsTrue() {
        test(33, "Tries the theorem, (1), on a number.", () -> {
            leavesAll("rootIsTrue", Sentences::full, x -> x.rootIsTrue(GREATEST));
            leavesAll("rootIsTrue", Sentences::fresh, x -> x.rootIsTrue(0));
        });
        test(33, "`number`: 0 to 8589672450", () -> {
            for (long number : new long[] {0, 1, 2, GREATEST - 1, GREATEST}) {
                due("rootIsTrue of " + number, fresh().rootIsTrue(number), true);
            }
        });
        test(33, "Returns whether it is so.", () -> {
            for (long root = 1; root <= 92680; root += root < 300 ? 1 : 97) {
                due("rootIsTrue below the square of " + root, fresh().rootIsTrue(root * root - 1), true);
                due("rootIsTrue of the square of " + root, fresh().rootIsTrue(root * root), true);
                due("rootIsTrue above the square of " + root, fresh().rootIsTrue(root * root + 1), true);
            }
            for (int digits = 1; digits < 33; digits++) {
                due("rootIsTrue below a power", fresh().rootIsTrue((1L << digits) - 1), true);
                due("rootIsTrue of a power", fresh().rootIsTrue(1L << digits), true);
            }
        });
        test(33, "Throws `IllegalArgumentException` if it is out of range", () -> {
            long[] none = {-1, GREATEST + 1, -2, 1L << 33, -GREATEST, Integer.MIN_VALUE, Long.MIN_VALUE, Long.MAX_VALUE};
            for (long number : none) {
                refusedAlways("rootIsTrue of " + number, ARGUMENT, x -> x.rootIsTrue(number));
            }
        });
    }

    private void promise34HypotIsTrue() {
        int[] some = {0, 1, 2, 3, 4, 5, 12, 255, 256, 361, 15000, 32767, 32768, 39321, 46340, 46341, 52428, 65160, 65534,
            65535};
        int[] none = {-1, 65536, -2, 65537, -65535, Integer.MIN_VALUE, Integer.MAX_VALUE};
        test(34, "Tries the theorem, (2), on two numbers.", () -> {
            leavesAll("hypotIsTrue", Sentences::full, x -> x.hypotIsTrue(65535, 0));
            leavesAll("hypotIsTrue", Sentences::fresh, x -> x.hypotIsTrue(0, 65535));
        });
        test(34, "`one`: 0 to 65535", () -> {
            due("hypotIsTrue of the least", fresh().hypotIsTrue(0, 7), true);
            due("hypotIsTrue of the greatest", fresh().hypotIsTrue(65535, 7), true);
        });
        test(34, "`other`: 0 to 65535", () -> {
            due("hypotIsTrue with the least", fresh().hypotIsTrue(7, 0), true);
            due("hypotIsTrue with the greatest", fresh().hypotIsTrue(7, 65535), true);
        });
        test(34, "Returns whether it is so.", () -> {
            for (int one : some) {
                for (int other : some) {
                    due("hypotIsTrue of " + one + " and " + other, fresh().hypotIsTrue(one, other), true);
                }
            }
        });
        test(34, "Throws `IllegalArgumentException` if one is out of range", () -> {
            for (int number : none) {
                for (int other : new int[] {0, 65535, number}) {
                    refusedAlways("hypotIsTrue of " + number, ARGUMENT, x -> x.hypotIsTrue(number, other));
                    refusedAlways("hypotIsTrue with " + number, ARGUMENT, x -> x.hypotIsTrue(other, number));
                }
            }
        });
    }

    private static Trigonyard listing(int bound) {
        Trigonyard x = busy();
        x.list('h', bound);
        return x;
    }

    private void promise35ListIsTrue() {
        test(35, "Tries the theorem, (6), on all primitive triangles whose longest sides are not above a bound: found by the"
                + " three ways of list() they are the same, each once.", () -> {
            leavesAll("listIsTrue on a new one", Sentences::fresh, x -> x.listIsTrue(400));
            leavesAll("listIsTrue on a full one", Sentences::full, x -> x.listIsTrue(400));
            leavesAll("listIsTrue behind the longest list", () -> listing(400), x -> x.listIsTrue(13));
            leavesAll("listIsTrue behind an empty list", () -> listing(0), x -> x.listIsTrue(400));
        });
        test(35, "`bound`: 0 to 400", () -> {
            for (int bound : new int[] {0, 1, 4, 5, 6, 399, 400}) {
                due("listIsTrue of " + bound, fresh().listIsTrue(bound), true);
            }
        });
        test(35, "Returns whether it is so.", () -> {
            for (int bound = 0; bound <= 400; bound++) {
                due("listIsTrue of " + bound, busy().listIsTrue(bound), true);
            }
        });
        test(35, "Throws `IllegalArgumentException` if it is out of range", () -> {
            for (int bound : new int[] {-1, 401, 402, -400, 65536, Integer.MIN_VALUE, Integer.MAX_VALUE}) {
                refusedAlways("listIsTrue of " + bound, ARGUMENT, x -> x.listIsTrue(bound));
            }
        });
    }

    private void promise36CountIsTrue() {
        test(36, "Tries the theorem, (7), on a length.", () -> {
            leavesAll("countIsTrue", Sentences::full, x -> x.countIsTrue(1000));
            leavesAll("countIsTrue", Sentences::fresh, x -> x.countIsTrue(1));
        });
        test(36, "`number`: 1 to 1000", () -> {
            for (int number : new int[] {1, 2, 3, 4, 5, 997, 999, 1000}) {
                due("countIsTrue of " + number, fresh().countIsTrue(number), true);
            }
        });
        test(36, "Returns whether it is so.", () -> {
            for (int number = 1; number <= 1000; number++) {
                due("countIsTrue of " + number, fresh().countIsTrue(number), true);
            }
        });
        test(36, "Throws `IllegalArgumentException` if it is out of range", () -> {
            for (int number : new int[] {0, 1001, 1002, -1, -1000, 65537, Integer.MIN_VALUE, Integer.MAX_VALUE}) {
                refusedAlways("countIsTrue of " + number, ARGUMENT, x -> x.countIsTrue(number));
            }
        });
    }
}
