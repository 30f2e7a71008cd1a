import java.io.IOException;
import java.math.BigInteger;

/** Promises 29 to 31, sentence by sentence, at their edges. */
public final class EdgesOfOrderTest extends Sentences {
    private static final char[] KEYS = {'c', 'p', 's'};

    private EdgesOfOrderTest() throws IOException {
        super("edges of order", 29, 31);
    }

    public static void main(String[] args) throws IOException {
        EdgesOfOrderTest t = new EdgesOfOrderTest();
        t.promise29Sort();
        t.promise29SortBy();
        t.promise30Sorted();
        t.promise31Checksum();
        t.promise31ChecksumWrapped();
        t.end();
    }

    private void dueOfSort(Trigonyard x, char by, String want) {
        int count = x.sort(by);
        due("sort " + by, order(x), want);
        due("sort " + by + " answered", count, want.isEmpty() ? 0 : want.split(" ").length);
    }

    /** The same triangle at all places. */
    private static Trigonyard alike(int a, int b, int c) {
        Trigonyard x = fresh();
        for (int place = 15; place >= 0; place--) {
            x.put(place, a, b, c);
        }
        return x;
    }

    private void promise29Sort() {
        test(29, "Puts the places at which triangles are held into an order, the least first, those alike by the numbers of"
                + " their places; it stays as it is until the next sort().", () -> {
            String all = "0 1 2 3 4 5 6 7 8 9 10 11 12 13 14 15 ";
            String back = "15 14 13 12 11 10 9 8 7 6 5 4 3 2 1 0 ";
            for (char by : KEYS) {
                dueOfSort(alike(3, 4, 5), by, all);
                dueOfSort(alike(65535, 65535, 65535), by, all);
                Trigonyard up = fresh();
                Trigonyard down = fresh();
                for (int place = 0; place < 16; place++) {
                    up.put(place, place + 1, place + 1, place + 1);
                    down.put(15 - place, place + 65520, place + 65520, place + 65520);
                }
                dueOfSort(up, by, all);
                dueOfSort(down, by, back);
                dueOfSort(fresh(), by, "");
                Trigonyard x = alike(7, 8, 9);
                x.put(8, 5, 6, 7);
                dueOfSort(x, by, "8 0 1 2 3 4 5 6 7 9 10 11 12 13 14 15 ");
                x.put(8, 8, 9, 10);
                dueOfSort(x, by, "0 1 2 3 4 5 6 7 9 10 11 12 13 14 15 8 ");
                orderStays(by);
            }
        });
        test(29, "Returns how many there are.", () -> {
            for (char by : KEYS) {
                Trigonyard x = fresh();
                due("sort of none", x.sort(by), 0);
                for (int count = 1; count <= 16; count++) {
                    x.put((count * 11) % 16, 3, 4, 5);
                    due("sort of " + count, x.sort(by), count);
                }
                for (int count = 15; count >= 0; count--) {
                    x.take((count * 3) % 16);
                    due("sort of " + count, x.sort(by), count);
                }
            }
        });
        test(29, "Throws `IllegalArgumentException` if there is no such by", () -> {
            otherSignsAreRefused("cps", (x, by) -> x.sort(by));
            refused("sort x of an object that holds all", Sentences::full, ARGUMENT, x -> x.sort('x'));
        });
    }

    /** Until the next sort() all other calls leave it. */
    private void orderStays(char by) {
        Trigonyard x = full();
        x.sort(by);
        String before = order(x);
        x.put(15, 1, 1, 1);
        x.scale(0, 64);
        x.reduce(0);
        x.copy(14, 13);
        x.euclid(12, 255, 1);
        x.step(11, 'a');
        x.join(0, 0, 10);
        x.list('h', 400);
        x.listIsTrue(400);
        x.compareAreas(0, 1);
        x.take(9);
        thrownBy(x, y -> y.sort('x'));
        due("order by " + by + " behind other calls", order(x), before);
        for (int place = 0; place < 16; place++) {
            thrownBy(x, y -> y.take(12));
            int taken = place;
            thrownBy(x, y -> y.take(taken));
        }
        due("order by " + by + " when none is held any more", order(x), before);
        due("sort then", x.sort(by), 0);
        due("order then", order(x), "");
    }

    private void promise29SortBy() {
        test(29, "`by`: c the longest side, p the circumference, s the area", () -> {
            Trigonyard x = holding(5, 5, 8, 2, 7, 8, 6, 6, 6, 5, 5, 6, 9, 9, 1);
            dueOfSort(x, 'c', "2 3 0 1 4 ");
            dueOfSort(x, 'p', "3 1 0 2 4 ");
            dueOfSort(x, 's', "4 1 0 3 2 ");
            // Areas that are alike, or nearly so, with an S of 66 binary digits.
            dueOfSort(holding(65407, 65248, 65207, 65368, 65285, 65203, 65378, 65258, 65220), 's', "1 2 0 ");
            dueOfSort(holding(65378, 65258, 65220, 65407, 65248, 65207, 65368, 65285, 65203), 's', "0 2 1 ");
            dueOfSort(holding(65524, 65491, 65238, 65465, 65424, 65363), 's', "1 0 ");
            dueOfSort(holding(65481, 65476, 65218, 65418, 65394, 65362), 's', "1 0 ");
            // S goes over 2 to the 63rd, 64th and 65th.
            int[] long1 = {62312, 62226, 54163, 62873, 62614, 53514, 54779, 54510, 42692, 52789, 52604, 45086,
                64126, 63728, 24194, 49152, 49152, 32768, 49279, 49023, 32770, 1, 1, 1, 65535, 65535, 65535};
            dueOfSort(holding(long1), 's', "7 6 5 4 3 2 1 0 8 ");
        });
    }

    private void promise30Sorted() {
        test(30, "Returns a place of the order.", () -> {
            leavesAll("sorted of the first", Sentences::full, x -> x.sorted(0));
            leavesAll("sorted of the last", Sentences::full, x -> x.sorted(15));
        });
        test(30, "`number`: its place in the order, from 0", () -> {
            Trigonyard x = busy();
            x.sort('p');
            due("first", x.sorted(0), 4);
            due("last", x.sorted(4), 0);
            Trigonyard y = alike(1, 1, 1);
            y.sort('c');
            due("first of all", y.sorted(0), 0);
            due("last of all", y.sorted(15), 15);
        });
        test(30, "Returns the place.", () -> {
            for (int place = 0; place < 16; place++) {
                Trigonyard x = fresh();
                x.put(place, 3, 4, 5);
                x.sort('s');
                due("the only one", x.sorted(0), place);
            }
        });
        test(30, "Throws `IndexOutOfBoundsException` if there is none", () -> {
            for (int number : new int[] {-1, 16, 17, -16, 65536, Integer.MIN_VALUE, Integer.MAX_VALUE}) {
                refusedAlways("sorted " + number, INDEX, x -> x.sorted(number));
            }
            for (int number = 0; number < 17; number++) {
                int asked = number;
                refused("sorted before a sort", Sentences::fresh, INDEX, x -> x.sorted(asked));
                refused("sorted before a sort of what is held", () -> alike(3, 4, 5), INDEX, x -> x.sorted(asked));
                if (number >= 5) {
                    refused("sorted behind five", Sentences::busy, INDEX, x -> x.sorted(asked));
                }
            }
            Trigonyard x = full();
            x.take(3);
            due("the last one of sixteen stays", x.sorted(15), 15);
            x.sort('c');
            due("behind the last one of fifteen", thrownBy(x, y -> y.sorted(15)), INDEX);
            due("the last one of fifteen", x.sorted(14), 15);
        });
    }

    /** The checksum that is due, by numbers without a bound. */
    private static long dueChecksum(Trigonyard x) {
        BigInteger h = BigInteger.ZERO;
        for (int place = 0; place < 16; place++) {
            BigInteger number = BigInteger.ZERO;
            if (x.isHeld(place)) {
                number = BigInteger.valueOf(4294967296L).multiply(BigInteger.valueOf(x.side(place, 0)))
                        .add(BigInteger.valueOf(65536L * x.side(place, 1) + x.side(place, 2)));
            }
            h = h.multiply(BigInteger.valueOf(31)).add(number);
        }
        String list = list(x);
        for (String triangle : list.isEmpty() ? new String[0] : list.split(", ")) {
            h = h.multiply(BigInteger.valueOf(31)).add(new BigInteger(triangle.split(" ")[2]));
        }
        String order = order(x);
        for (String place : order.isEmpty() ? new String[0] : order.split(" ")) {
            h = h.multiply(BigInteger.valueOf(31)).add(new BigInteger(place));
        }
        return h.longValue();
    }

    private void promise31Checksum() {
        test(31, "Returns a number that depends on all that is held.", () -> {
            Trigonyard x = fresh();
            long last = x.checksum();
            for (int place = 0; place < 16; place++) {
                x.put(place, 1, 1, 1);
                due("checksum with one more", x.checksum() == last, false);
                last = x.checksum();
            }
            x.list('e', 5);
            due("checksum with a list", x.checksum() == last, false);
            last = x.checksum();
            x.sort('c');
            due("checksum with an order", x.checksum() == last, false);
            leavesAll("checksum", Sentences::full, y -> y.checksum());
        });
    }

    private void promise31ChecksumWrapped() {
        test(31, "Returns h, 0 at first, then 31 h and a number, wrapped, for each of these: for each place 0 if none is"
                + " held, otherwise 4294967296 times the shortest side and 65536 times the next one and the longest one, in"
                + " one sum; for each of the list its longest side; for each of the order the place.", () -> {
            due("checksum of nothing", fresh().checksum(), 0L);
            Trigonyard x = fresh();
            x.put(15, 5, 3, 4);
            due("checksum of the last place", x.checksum(), 3L * 4294967296L + 4 * 65536 + 5);
            x.take(15);
            due("checksum of nothing again", x.checksum(), 0L);
            x.list('t', 5);
            due("checksum of a list of one", x.checksum(), 5L);
            x.list('t', 13);
            due("checksum of a list of two", x.checksum(), 31L * 5 + 13);
            x.list('t', 0);
            x.put(14, 1, 1, 1);
            x.sort('c');
            x.take(14);
            due("checksum of an order", x.checksum(), 14L);
            due("checksum, busy", busy().checksum(), dueChecksum(busy()));
            due("checksum, full", full().checksum(), dueChecksum(full()));
            Trigonyard y = alike(65535, 65535, 65535);
            due("checksum of the greatest", y.checksum(), dueChecksum(y));
            y.list('h', 400);
            y.sort('s');
            due("checksum of the greatest with all", y.checksum(), dueChecksum(y));
            Trigonyard z = fresh();
            z.put(0, 32768, 65535, 65535);
            due("checksum wrapped", z.checksum(), dueChecksum(z));
        });
    }
}
