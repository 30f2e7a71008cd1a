import java.io.IOException;

/** What the document says of all promises: its Terms, and how many calls an object is used for. */
public final class EdgesOfTermsTest extends Sentences {
    private EdgesOfTermsTest() throws IOException {
        super("edges of terms", 0, 0);
    }

    public static void main(String[] args) throws IOException {
        EdgesOfTermsTest t = new EdgesOfTermsTest();
        t.manyCalls();
        t.places();
        t.sides();
        t.rightOnes();
        t.nothingIsChanged();
        t.firstOfSeveralIsThrown();
        t.end();
    }

    /** The last of 512 calls, of which the maker has made some, answers as the first one does. */
    private void dueOf512(String what, int made, Maker maker, Call call) {
        Object want = call.on(maker.make());
        Trigonyard x = maker.make();
        Object got = null;
        for (int calls = made; calls < 512; calls++) {
            got = call.on(x);
        }
        due(what + " as the 512th call", got, want);
    }

    private void manyCalls() {
        testTerm("An object is used for at most 512 calls after it has been made", () -> {
            dueOf512("put", 0, Sentences::fresh, x -> x.put(15, 65535, 65535, 65535));
            dueOf512("list e", 0, Sentences::fresh, x -> x.list('e', 400));
            dueOf512("list t", 0, Sentences::fresh, x -> x.list('t', 400));
            dueOf512("list h", 0, Sentences::fresh, x -> x.list('h', 400));
            dueOf512("listIsTrue", 0, Sentences::fresh, x -> x.listIsTrue(400));
            dueOf512("counts c", 0, Sentences::fresh, x -> x.counts('c', 1000));
            dueOf512("counts l", 0, Sentences::fresh, x -> x.counts('l', 1000));
            dueOf512("countIsTrue", 0, Sentences::fresh, x -> x.countIsTrue(997));
            dueOf512("rootIsTrue", 0, Sentences::fresh, x -> x.rootIsTrue(8589672450L));
            dueOf512("hypotIsTrue", 0, Sentences::fresh, x -> x.hypotIsTrue(65535, 65534));
            dueOf512("sort", 18, Sentences::full, x -> x.sort('s'));
            dueOf512("checksum", 18, Sentences::full, x -> x.checksum());
            dueOf512("isTrue", 3, () -> holding(361, 65160, 65161), x -> x.isTrue(0));
            dueOf512("depth", 3, () -> holding(361, 65160, 65161), x -> x.depth(0));
            dueOf512("join", 3, () -> holding(3, 4, 5), x -> x.join(0, 0, 15));
            dueOf512("refused", 18, Sentences::full, x -> thrownBy(x, y -> y.list('x', 401)));
        });
    }

    private void places() {
        testTerm("There are the places 0 to 15; at each of them a triangle is held or none; none at first.", () -> {
            Trigonyard x = fresh();
            for (int place = 0; place < 16; place++) {
                due("held at first at " + place, x.isHeld(place), false);
                x.put(place, place + 2, place + 3, place + 4);
            }
            for (int place = 0; place < 16; place++) {
                due("then at " + place, at(x, place), (place + 2) + " " + (place + 3) + " " + (place + 4));
            }
            due("beside it", places(fresh()).replace("none", "").replace(", ", ""), "");
        });
    }

    private void sides() {
        testTerm("Its sides are whole numbers from 1 to 65535, each less than the sum of the two others; they are told by"
                + " their lengths, 0 the shortest, 1 the next one, 2 the longest.", () -> {
            due("the shortest", holding(1, 1, 1).side(0, 2), 1);
            due("the longest", holding(65535, 65535, 65535).side(0, 0), 65535);
            due("the flattest", at(holding(65535, 2, 65534), 0), "2 65534 65535");
            refused("0", Sentences::full, ARGUMENT, x -> x.put(0, 1, 1, 0));
            refused("65536", Sentences::full, ARGUMENT, x -> x.put(0, 65535, 65535, 65536));
            refused("a sum", Sentences::full, STATE, x -> x.put(0, 1, 65534, 65535));
        });
        testTerm("Its angles are told by the sides that lie opposite to them.", () -> {
            Trigonyard x = holding(7, 3, 5);
            due("opposite to the shortest", x.angle(0, 0), 0);
            due("opposite to the next one", x.angle(0, 1), 0);
            due("opposite to the longest", x.angle(0, 2), 120);
        });
    }

    private void rightOnes() {
        testTerm("it is primitive if it is right and its sides have no common divisor but 1.", () -> {
            due("primitive", holding(3, 4, 5).depth(0), 0);
            refused("right, and 2 divides its sides", () -> holding(6, 8, 10), STATE, x -> x.depth(0));
            refused("right, and 13 divides its sides", () -> holding(39, 52, 65), STATE, x -> x.generator(0, 'm'));
            refused("not right, without a divisor", () -> holding(4, 5, 6), STATE, x -> x.step(0, 'a'));
            refused("not right, and 2 divides its sides", () -> holding(4, 4, 6), STATE, x -> x.step(0, 'p'));
        });
        testTerm("Let x be the odd leg of a primitive one, y its even leg, z its longest side", () -> {
            // The odd leg is the longer one here, and the shorter one in 5, 12, 13.
            Trigonyard x = holding(8, 15, 17, 8, 15, 17, 8, 15, 17, 5, 12, 13);
            x.step(0, 'a');
            x.step(1, 'b');
            x.step(2, 'c');
            x.step(3, 'c');
            due("by a", at(x, 0), "33 56 65");
            due("by b", at(x, 1), "65 72 97");
            due("by c", at(x, 2), "12 35 37");
            due("by c", at(x, 3), "28 45 53");
        });
    }

    /** A call that is refused, between two that are not: these answer as if it had not been. */
    private void unseen(String what, Class<?> type, Call call) {
        Trigonyard x = full();
        Trigonyard y = full();
        due(what, thrownBy(x, call), type);
        due(what + ", then join", x.join(0, 0, 1), y.join(0, 0, 1));
        due(what + ", then step", x.step(2, 'b'), y.step(2, 'b'));
        due(what + ", then scale", x.scale(3, 7), y.scale(3, 7));
        due(what + ", then listIsTrue", x.listIsTrue(100), y.listIsTrue(100));
        due(what + ", then all", told(x), told(y));
        due(what + ", then list", x.list('h', 50), y.list('h', 50));
        due(what + ", then sort", x.sort('p'), y.sort('p'));
        due(what + ", then all", told(x), told(y));
    }

    private void nothingIsChanged() {
        testTerm("A method that throws an exception changes nothing.", () -> {
            unseen("put at no place", INDEX, x -> x.put(16, 1, 1, 1));
            unseen("put out of range", ARGUMENT, x -> x.put(0, 1, 1, 65536));
            unseen("put flat", STATE, x -> x.put(0, 1, 1, 2));
            unseen("take at no place", INDEX, x -> x.take(-1));
            unseen("copy to no place", INDEX, x -> x.copy(0, 16));
            unseen("scale out of range", ARGUMENT, x -> x.scale(0, 65));
            unseen("join of no leg", STATE, x -> x.join(0, 2, 5));
            unseen("euclid out of range", ARGUMENT, x -> x.euclid(0, 5, 5));
            unseen("euclid too long", STATE, x -> x.euclid(0, 255, 254));
            unseen("step of no how", ARGUMENT, x -> x.step(1, 'd'));
            unseen("step p of 3, 4, 5", STATE, x -> x.step(0, 'p'));
            unseen("list of no way", ARGUMENT, x -> x.list('s', 5));
            unseen("list of no bound", ARGUMENT, x -> x.list('e', 401));
            unseen("listed behind all", INDEX, x -> x.listed(11, 0));
            unseen("counts of no length", ARGUMENT, x -> x.counts('c', 1001));
            unseen("sort of no by", ARGUMENT, x -> x.sort('a'));
            unseen("sorted behind all", INDEX, x -> x.sorted(16));
            unseen("listIsTrue of no bound", ARGUMENT, x -> x.listIsTrue(-1));
            unseen("countIsTrue of no length", ARGUMENT, x -> x.countIsTrue(0));
            unseen("rootIsTrue out of range", ARGUMENT, x -> x.rootIsTrue(-1));
            unseen("hypotIsTrue out of range", ARGUMENT, x -> x.hypotIsTrue(0, 65536));
        });
    }

    private void firstOfSeveralIsThrown() {
        testTerm("If several exceptions apply, the one that is documented first is thrown.", () -> {
            refusedAlways("put: place, side and sum", INDEX, x -> x.put(16, 0, 1, 9));
            refusedAlways("put: place and side", INDEX, x -> x.put(-1, 65536, 65535, 65535));
            refusedAlways("put: place and sum", INDEX, x -> x.put(16, 1, 2, 3));
            refusedAlways("put: side and sum", ARGUMENT, x -> x.put(0, 65536, 1, 1));
            refusedAlways("put: side of 0 and sum", ARGUMENT, x -> x.put(0, 0, 1, 1));
            refused("side: which and none", Sentences::fresh, INDEX, x -> x.side(0, 3));
            refused("copy: other place and none", Sentences::fresh, INDEX, x -> x.copy(0, 16));
            refusedAlways("scale: place and number", INDEX, x -> x.scale(16, 0));
            refused("scale: number and none", Sentences::fresh, ARGUMENT, x -> x.scale(0, 65));
            refused("scale: number and too long", () -> holding(1024, 1024, 1), ARGUMENT, x -> x.scale(0, 65));
            refused("join: place and none", Sentences::fresh, INDEX, x -> x.join(0, 0, 16));
            refused("join: place and not right", Sentences::busy, INDEX, x -> x.join(0, 0, -1));
            refused("join: none and not right", Sentences::busy, NONE, x -> x.join(0, 15, 1));
            refused("join: not right and none", Sentences::busy, NONE, x -> x.join(15, 0, 1));
            refused("angle: which and none", Sentences::fresh, INDEX, x -> x.angle(0, -1));
            refusedAlways("circle: place and what", INDEX, x -> x.circle(16, 'x'));
            refused("circle: what and none", Sentences::fresh, ARGUMENT, x -> x.circle(0, 'x'));
            refused("circle: what and not whole", () -> holding(2, 2, 3), ARGUMENT, x -> x.circle(0, 'x'));
            refused("compareAreas: none and other place", Sentences::fresh, INDEX, x -> x.compareAreas(0, 16));
            refused("hypot: none and side", Sentences::fresh, INDEX, x -> x.hypot(0, 0, 3));
            refusedAlways("euclid: place and m", INDEX, x -> x.euclid(16, 256, 1));
            refusedAlways("euclid: place and too long", INDEX, x -> x.euclid(16, 255, 254));
            refusedAlways("euclid: m and too long", ARGUMENT, x -> x.euclid(0, 256, 1));
            refusedAlways("euclid: n and too long", ARGUMENT, x -> x.euclid(0, 255, 255));
            refusedAlways("step: place and how", INDEX, x -> x.step(16, 'd'));
            refused("step: how and none", Sentences::fresh, ARGUMENT, x -> x.step(0, 'd'));
            refused("step: how and not primitive", () -> holding(6, 8, 10), ARGUMENT, x -> x.step(0, 'q'));
            refused("step: how and too long", () -> holding(361, 65160, 65161), ARGUMENT, x -> x.step(0, 'B'));
            refusedAlways("generator: place and which", INDEX, x -> x.generator(16, 'o'));
            refused("generator: which and none", Sentences::fresh, ARGUMENT, x -> x.generator(0, 'o'));
            refused("generator: which and not primitive", () -> holding(6, 8, 10), ARGUMENT, x -> x.generator(0, 'o'));
            refusedAlways("list: way and bound", ARGUMENT, x -> x.list('x', 401));
            refused("listed: number and which", Sentences::fresh, INDEX, x -> x.listed(0, 3));
            refusedAlways("counts: how and length", ARGUMENT, x -> x.counts('x', 0));
        });
    }
}
