import java.util.function.Consumer;

/** The boundaries of "The ground" and of the promises 1 to 9. */
final class EdgesOfGround {
    private static final String KINDS = "csrb";

    private EdgesOfGround() {
    }

    /** What is told of places. */
    private interface Teller {
        int tell(Boringhead x, int from, int to);
    }

    /** Whether a place is told what a teller tells, seen by telling it. */
    private interface Seen {
        boolean at(Boringhead x, int place);
    }

    private static final Teller GROUND = (x, from, to) -> x.ground(from, to, 's');
    private static final Teller REFERENCE = (x, from, to) -> x.reference(from, to, 's');
    private static final Teller DEPTH = (x, from, to) -> x.depth(from, to, 30);
    private static final Teller WATER = (x, from, to) -> x.water(from, to, 7);
    private static final Teller BEND = (x, from, to) -> x.bend(from, to, 3, -4);

    static void all() {
        terms();
        kinds();
        boreholes();
        promise1();
        tellers();
        returns();
        numbers();
        promises7to9();
    }

    // ---- the terms

    private static void terms() {
        Sentence.of("An object is used for at most 512 calls after it has been made; what later calls answer is free", EdgesOfGround::calls512);
        Sentence.of("A ring once built stays", EdgesOfGround::ringsStay);
        Sentence.of("muck, grout and ground are reckoned for each ring", EdgesOfGround::eachRing);
        Sentence.of("Places are 0 to 199", EdgesOfGround::places);
        Sentence.of("the ring with the number n, from 0, stands at the place n", EdgesOfGround::ringAtItsPlace);
        Sentence.of("at most 120 are built", EdgesOfGround::most120);
        Sentence.of("a kind of ground, clay at first", () -> Check.same("others", new Boringhead().ground(0, 199, 'c'), 0));
        Sentence.of("a kind by the reference of the contract, clay at first",
                () -> Check.same("others", new Boringhead().reference(0, 199, 'c'), 0));
        Sentence.of("depth, 10 to 60, 20 at first", EdgesOfGround::depthAtFirst);
        Sentence.of("water, 0 to 40, 0 at first", EdgesOfGround::waterAtFirst);
        Sentence.of("What is told of a place where a ring stands is refused", EdgesOfGround::toldOfRings);
    }

    private static void calls512() {
        Boringhead x = new Boringhead();
        Boringhead y = new Boringhead();
        y.house(0, 0, 0);
        for (int call = 1; call <= 511; call++) {
            Check.same("wait " + call, x.pause(1, 'w', '-'), call);
            Check.same("lift " + call, y.lift(0, true, 50), -50 * call);
        }
        Check.same("the 512th call", x.now(), 511);
        Boringhead z = Edge.made(Scenes::whole);
        for (int call = 160; call < 512; call++) {
            Check.same("bars of the last calls", z.bars(call % 8), 'e');
        }
    }

    private static void ringsStay() {
        Boringhead x = Edge.made(Scenes::threeRings);
        x.ground(3, 199, 'b');
        x.bend(3, 199, 20, 20);
        x.change(0);
        x.pause(1440, 'w', '-');
        Check.same("rings", x.rings(), 3);
        Check.same("off", x.off(2, true), 20);
        Check.same("clay", x.count('c'), 3);
        Check.same("rotation", x.rotation(1), 4);
    }

    private static void eachRing() {
        Boringhead x = new Boringhead();
        x.ground(1, 1, 's');
        Scenes.clay(x, 3);
        x.grout(1, 50);
        Check.same("lost ahead", x.lost(0), 120);
        Check.same("lost at it", x.lost(1), 100);
        Check.same("lost behind", x.lost(2), 120);
        Check.same("muck", x.muck(), 65 + 60 + 65);
        Check.same("clay", x.count('c'), 2);
    }

    private static void places() {
        Boringhead x = new Boringhead();
        Check.same("all", x.bend(0, 199, 0, 0), 200);
        x.water(0, 0, 1);
        x.water(199, 199, 2);
        Check.same("lower 0", x.lower(0), 50);
        Check.same("lower 1", x.lower(1), 40);
        Check.same("lower 198", x.lower(198), 40);
        Check.same("lower 199", x.lower(199), 60);
        Edge.outside(Edge.ARGUMENT, Scenes::fresh, 0, 199, Boringhead::lower);
    }

    private static void ringAtItsPlace() {
        Boringhead x = new Boringhead();
        x.ground(0, 0, 's');
        x.ground(1, 1, 'b');
        x.ground(2, 2, 'r');
        Scenes.clay(x, 4);
        Check.same("lost at ring 0", x.lost(0), 150);
        Check.same("lost at ring 1", x.lost(1), 140);
        Check.same("lost at ring 2", x.lost(2), 110);
        Check.same("lost at ring 3", x.lost(3), 120);
        Edge.refused("ring 4", Edge.INDEX, Scenes::threeRings, y -> y.lost(4));
    }

    private static void most120() {
        Boringhead x = Edge.made(y -> Scenes.driven(y, 119, 0, 4));
        x.deliver(1);
        Check.same("no bar ahead of the 120th", x.bars(4), '-');
        x.advance(4);
        Check.same("rings", x.rings(), 120);
        x.deliver(1);
        Check.same("bar of a 121st", x.bars(0), 'e');
        Edge.refused("a 121st", Edge.UNSUPPORTED, y -> {
            Scenes.whole(y);
            y.deliver(40);
        }, y -> y.advance(0));
    }

    private static void depthAtFirst() {
        Boringhead x = new Boringhead();
        for (int place = 0; place < 200; place++) {
            Check.same("depth at " + place, x.depth(place, place, 60), 20);
        }
    }

    private static void waterAtFirst() {
        Boringhead x = new Boringhead();
        for (int place = 0; place < 200; place++) {
            Check.same("water at " + place, x.water(place, place, 40), 0);
        }
    }

    private static void toldOfRings() {
        Teller[] tellers = {GROUND, REFERENCE, DEPTH, WATER, BEND};
        for (Teller teller : tellers) {
            Edge.taken("without rings", Scenes::fresh, x -> teller.tell(x, 0, 199));
            Edge.refused("at one ring", Edge.UNSUPPORTED, x -> Scenes.clay(x, 1), x -> teller.tell(x, 0, 0));
            Edge.taken("behind one ring", x -> Scenes.clay(x, 1), x -> teller.tell(x, 1, 1));
            Edge.refused("at 119", Edge.UNSUPPORTED, Scenes::whole, x -> teller.tell(x, 119, 119));
            Edge.taken("at 120", Scenes::whole, x -> teller.tell(x, 120, 199));
        }
    }

    // ---- the table

    private static void kinds() {
        Sentence.of("The kinds, with earth, strength, wear, bulk, minutes and overcut: 'c' clay 2, 8, 1, 130, 30, 2",
                () -> kind('c', 2, 8, 1, 130, 30, 2));
        Sentence.of("'s' sand 4, 5, 4, 120, 40, 5", () -> kind('s', 4, 5, 4, 120, 40, 5));
        Sentence.of("'r' rock 0, 20, 12, 160, 90, 1", () -> kind('r', 0, 20, 12, 160, 90, 1));
        Sentence.of("'b' boulders 3, 7, 20, 140, 70, 4", () -> kind('b', 3, 7, 20, 140, 70, 4));
    }

    private static void kind(char kind, int... row) {
        Boringhead x = new Boringhead();
        x.ground(0, 0, kind);
        x.depth(0, 0, 25);
        Check.same("earth", x.lower(0), 25 * row[0]);
        Check.same("strength", x.upper(0), 25 * row[1]);
        x.pressure(100);
        x.deliver(1);
        Check.same("minutes", x.advance(0), row[4]);
        Check.same("wear", x.worn(7), row[2]);
        Check.same("bulk", x.muck(), row[3] / 2);
        Check.same("overcut", x.lost(0), 100 + 10 * row[5]);
    }

    // ---- boreholes, the guess and the doubt

    private static void boreholes() {
        Sentence.of("At most 20 boreholes are numbered from 0", EdgesOfGround::numbered);
        Sentence.of("The guess of a place is its ground if a ring stands there", EdgesOfGround::guessAtRings);
        Sentence.of("the boreholes, at most 10 places away", EdgesOfGround::tenPlacesAway);
        Sentence.of("weigh 11 less how far they are, each for its kind", EdgesOfGround::weights);
        Sentence.of("the kind with the greatest weight", EdgesOfGround::greatest);
        Sentence.of("of like ones the first of c, s, r, b", EdgesOfGround::likeOnes);
        Sentence.of("'?' without any", EdgesOfGround::guessWithoutAny);
        Sentence.of("1000 less 1000 times the weight of that kind divided by that of all, cut", EdgesOfGround::doubtIsCut);
        Sentence.of("0 where a ring stands", EdgesOfGround::doubtAtRings);
        Sentence.of("1000 without any", EdgesOfGround::doubtWithoutAny);
    }

    private static void twenty(Boringhead x) {
        for (int i = 0; i < 20; i++) {
            x.bore(10 * (i % 20), KINDS.charAt(i % 4));
        }
    }

    private static void numbered() {
        Boringhead x = new Boringhead();
        for (int i = 0; i < 20; i++) {
            Check.same("number", x.bore(199 - i, 'b'), i);
        }
        Edge.refused("a 21st", Edge.STATE, EdgesOfGround::twenty, y -> y.bore(0, 'c'));
    }

    private static void guessAtRings() {
        Boringhead x = new Boringhead();
        x.ground(0, 3, 'r');
        x.bore(2, 's');
        Check.same("without rings", x.guess(0), 's');
        Scenes.clay(x, 3);
        Check.same("at the first ring", x.guess(0), 'r');
        Check.same("at the last one", x.guess(2), 'r');
        Check.same("behind it", x.guess(3), 's');
        Boringhead whole = Edge.made(Scenes::whole);
        Check.same("at the 120th", whole.guess(119), 'c');
        Check.same("behind the 120th", whole.guess(120), '?');
    }

    private static void tenPlacesAway() {
        Boringhead x = new Boringhead();
        x.bore(100, 'b');
        Check.same("11 ahead", x.guess(89), '?');
        Check.same("10 ahead", x.guess(90), 'b');
        Check.same("0 away", x.guess(100), 'b');
        Check.same("10 behind", x.guess(110), 'b');
        Check.same("11 behind", x.guess(111), '?');
        x.bore(0, 's');
        x.bore(199, 'r');
        Check.same("10 behind the first place", x.guess(10), 's');
        Check.same("11 behind the first place", x.guess(11), '?');
        Check.same("10 ahead of the last place", x.guess(189), 'r');
        Check.same("11 ahead of the last place", x.guess(188), '?');
    }

    private static void weights() {
        for (int away = 0; away <= 11; away++) {
            Boringhead x = new Boringhead();
            x.bore(50, 'c');
            x.bore(50 - away, 's');
            int weight = away > 10 ? 0 : 11 - away;
            int of11 = 1000 - 1000 * 11 / (11 + weight);
            Check.same("doubt beside one " + away + " ahead", x.doubt(50), of11);
            Boringhead y = new Boringhead();
            y.bore(50, 'c');
            y.bore(50 + away, 's');
            Check.same("doubt beside one " + away + " behind", y.doubt(50), of11);
        }
    }

    private static void greatest() {
        for (int i = 0; i < 4; i++) {
            for (int j = 0; j < 4; j++) {
                Boringhead x = new Boringhead();
                x.bore(51, KINDS.charAt(i));
                x.bore(50, KINDS.charAt(j));
                Check.same("11 ahead of 10", x.guess(50), KINDS.charAt(j));
                if (i != j) {
                    x.bore(60, KINDS.charAt(i));
                    Check.same("11 beside 10 and 1", x.guess(50), KINDS.charAt(Math.min(i, j)));
                    x.bore(60, KINDS.charAt(i));
                    Check.same("12 ahead of 11", x.guess(50), KINDS.charAt(i));
                }
            }
        }
    }

    private static void likeOnes() {
        for (int mask = 1; mask < 16; mask++) {
            Boringhead x = new Boringhead();
            for (int i = 3; i >= 0; i--) {
                if ((mask >> i & 1) == 1) {
                    x.bore(i % 2 == 0 ? 41 : 59, KINDS.charAt(i));
                }
            }
            Check.same("the first of mask " + mask, x.guess(50), KINDS.charAt(Integer.numberOfTrailingZeros(mask)));
        }
    }

    private static void guessWithoutAny() {
        Boringhead x = new Boringhead();
        Check.same("at 0", x.guess(0), '?');
        Check.same("at 199", x.guess(199), '?');
        x.bore(11, 'c');
        Check.same("with one too far away", x.guess(0), '?');
    }

    private static void doubtIsCut() {
        doubt(10, 20, 15, 1000 - 500);
        doubt(10, 19, 13, 1000 - 8000 / 13);
        doubt(10, 20, 11, 1000 - 10000 / 12);
        doubt(10, 13, 14, 1000 - 10000 / 17);
        Boringhead x = new Boringhead();
        x.bore(10, 'c');
        x.bore(10, 's');
        x.bore(10, 'r');
        Check.same("of a third", x.doubt(10), 667);
        x.bore(10, 'c');
        x.bore(10, 's');
        x.bore(10, 'c');
        Check.same("of a half", x.doubt(10), 500);
        Check.same("of a half at the edge", x.doubt(20), 500);
    }

    private static void doubt(int sand, int rock, int place, int due) {
        Boringhead x = new Boringhead();
        x.bore(sand, 's');
        x.bore(rock, 'r');
        Check.same("at " + place, x.doubt(place), due);
    }

    private static void doubtAtRings() {
        Boringhead x = new Boringhead();
        x.bore(0, 's');
        x.bore(0, 'r');
        Check.same("without rings", x.doubt(0), 500);
        Scenes.clay(x, 3);
        Check.same("at the first ring", x.doubt(0), 0);
        Check.same("at the last ring", x.doubt(2), 0);
        Check.same("behind it", x.doubt(3), 500);
        Check.same("without any, at a ring", Edge.made(Scenes::threeRings).doubt(2), 0);
        Check.same("without any, behind it", Edge.made(Scenes::threeRings).doubt(3), 1000);
    }

    private static void doubtWithoutAny() {
        Boringhead x = new Boringhead();
        Check.same("at 0", x.doubt(0), 1000);
        Check.same("at 199", x.doubt(199), 1000);
        x.bore(188, 'c');
        Check.same("with one 11 places away", x.doubt(199), 1000);
        x.bore(189, 'c');
        Check.same("with one 10 places away", x.doubt(199), 0);
    }

    // ---- the promises

    private static void promise1() {
        Sentence.of(1, "without rings, boreholes and houses", () -> {
            Boringhead x = new Boringhead();
            Check.same("rings", x.rings(), 0);
            Check.same("the first borehole", x.bore(0, 'c'), 0);
            Check.same("the first house", x.house(0, 0, 0), 0);
            Edge.refused("ring 0", Edge.INDEX, Scenes::fresh, y -> y.lost(0));
            Edge.refused("house 0", Edge.INDEX, Scenes::fresh, y -> y.tilt(0));
        });
    }

    private static void tellers() {
        Seen ground = (x, place) -> x.ground(place, place, 's') == 0;
        Seen reference = (x, place) -> x.reference(place, place, 's') == 0;
        Seen depth = (x, place) -> x.depth(place, place, 30) == 30;
        Seen water = (x, place) -> x.water(place, place, 7) == 7;
        String place = "if a place is out of range";
        String number = "if a number is out of range";
        teller(2, GROUND, ground, place, "the last one is ahead of the first");
        teller(3, REFERENCE, reference, place, "the last one is ahead of the first");
        teller(4, DEPTH, depth, number, "the last place is ahead of the first");
        teller(5, WATER, water, number, "the last place is ahead of the first");
        teller(6, BEND, EdgesOfGround::isBent, number, "the last place is ahead of the first");
    }

    /** Drives over the place, and sees how the heading goes there otherwise than without a bend; none is driven at 199. */
    private static boolean isBent(Boringhead x, int place) {
        if (place == 199) {
            return true;
        }
        Boringhead straight = new Boringhead();
        Scenes.clay(straight, place + 1);
        Scenes.clay(x, place);
        int before = x.heading(false);
        x.advance(place % 2 == 0 ? 0 : 4);
        return x.heading(false) - before == -3 && straight.heading(false) == 0;
    }

    private static void teller(int promise, Teller teller, Seen seen, String outOfRange, String isBehind) {
        Sentence.of(promise, "- `from`: the first place", () -> {
            Check.same("ahead of it", seen.at(Edge.made(x -> teller.tell(x, 3, 5)), 2), false);
            Check.same("at it", seen.at(Edge.made(x -> teller.tell(x, 3, 5)), 3), true);
            Check.same("at the very first", seen.at(Edge.made(x -> teller.tell(x, 0, 5)), 0), true);
            Check.same("at 199", seen.at(Edge.made(x -> teller.tell(x, 199, 199)), 199), true);
            Edge.inside(Scenes::fresh, 0, 199, (x, from) -> teller.tell(x, from, 199));
        });
        Sentence.of(promise, "- `to`: the last one", () -> {
            Check.same("at it", seen.at(Edge.made(x -> teller.tell(x, 3, 5)), 5), true);
            Check.same("behind it", seen.at(Edge.made(x -> teller.tell(x, 3, 5)), 6), false);
            Check.same("behind the very first", seen.at(Edge.made(x -> teller.tell(x, 0, 0)), 1), false);
            Check.same("at 199", seen.at(Edge.made(x -> teller.tell(x, 0, 199)), 199), true);
            Edge.inside(Scenes::fresh, 0, 199, (x, to) -> teller.tell(x, 0, to));
        });
        Sentence.of(promise, outOfRange, () -> {
            Edge.outside(Edge.ARGUMENT, Scenes::threeRings, 0, 199, (x, from) -> teller.tell(x, from, 199));
            Edge.outside(Edge.ARGUMENT, Scenes::threeRings, 0, 199, (x, to) -> teller.tell(x, 3, to));
            Edge.outside(Edge.ARGUMENT, Scenes::threeRings, 0, 199, (x, place) -> teller.tell(x, place, place));
            Edge.refused("both ends of int", Edge.ARGUMENT, Scenes::threeRings,
                    x -> teller.tell(x, Integer.MIN_VALUE, Integer.MAX_VALUE));
            Edge.refused("-1 at a ring", Edge.ARGUMENT, Scenes::threeRings, x -> teller.tell(x, -1, 0));
            Edge.refused("200 from a ring on", Edge.ARGUMENT, Scenes::threeRings, x -> teller.tell(x, 0, 200));
        });
        Sentence.of(promise, isBehind, () -> {
            Edge.taken("5 to 5", Scenes::threeRings, x -> teller.tell(x, 5, 5));
            for (int[] row : new int[][] {{5, 4}, {1, 0}, {199, 198}, {199, 0}, {3, 2}}) {
                Edge.refused(row[0] + " to " + row[1], Edge.ARGUMENT, Scenes::threeRings, x -> teller.tell(x, row[0], row[1]));
            }
        });
        Sentence.of(promise, "if a ring stands at one of them", () -> {
            for (int[] row : new int[][] {{0, 0}, {2, 2}, {2, 3}, {0, 199}, {2, 199}, {0, 2}}) {
                Edge.refused(row[0] + " to " + row[1], Edge.UNSUPPORTED, Scenes::threeRings, x -> teller.tell(x, row[0], row[1]));
            }
            Edge.inside(Scenes::threeRings, 3, 199, (x, from) -> teller.tell(x, from, 199));
            Edge.taken("3 to 3", Scenes::threeRings, x -> teller.tell(x, 3, 3));
        });
    }

    private static void returns() {
        Sentence.of(2, "how many of them had another one", () -> others((x, from, to) -> x.ground(from, to, 'b'), GROUND));
        Sentence.of(3, "how many of them had another one", () -> others((x, from, to) -> x.reference(from, to, 'b'), REFERENCE));
        Sentence.of(4, "the depth of the first one before", () -> before(DEPTH, (x, from, to) -> x.depth(from, to, 60), 20, 30, 60));
        Sentence.of(5, "that of the first one before", () -> before(WATER, (x, from, to) -> x.water(from, to, 40), 0, 7, 40));
        Sentence.of(6, "how many places it is told for", () -> {
            Boringhead x = new Boringhead();
            Check.same("one", x.bend(0, 0, 1, 1), 1);
            Check.same("one again", x.bend(0, 0, 1, 1), 1);
            Check.same("the last", x.bend(199, 199, 1, 1), 1);
            Check.same("two", x.bend(0, 1, 1, 1), 2);
            Check.same("all", x.bend(0, 199, 1, 1), 200);
            Check.same("behind 120 rings", Edge.made(Scenes::whole).bend(120, 199, 1, 1), 80);
        });
    }

    private static void others(Teller boulders, Teller sand) {
        Boringhead x = new Boringhead();
        Check.same("of one", boulders.tell(x, 0, 0), 1);
        Check.same("none of one", boulders.tell(x, 0, 0), 0);
        Check.same("199 of 200", boulders.tell(x, 0, 199), 199);
        Check.same("none of 200", boulders.tell(x, 0, 199), 0);
        Check.same("all of 200", sand.tell(x, 0, 199), 200);
        boulders.tell(x, 10, 12);
        Check.same("3 of 5", sand.tell(x, 9, 13), 3);
        boulders.tell(x, 199, 199);
        Check.same("the last of two", sand.tell(x, 198, 199), 1);
    }

    private static void before(Teller one, Teller two, int atFirst, int ofOne, int ofTwo) {
        Boringhead x = new Boringhead();
        Check.same("at first", one.tell(x, 1, 198), atFirst);
        Check.same("ahead of it", two.tell(x, 0, 198), atFirst);
        Check.same("behind it", two.tell(x, 199, 199), atFirst);
        Check.same("then", one.tell(x, 198, 199), ofTwo);
        Check.same("the first of two", two.tell(x, 197, 198), ofTwo);
        Check.same("the last", two.tell(x, 199, 199), ofOne);
    }

    private static void numbers() {
        letters(2, "- `kind`: c, s, r or b", Boringhead::ground);
        letters(3, "- `kind`: c, s, r or b", Boringhead::reference);
        Sentence.of(4, "- `depth`: 10 to 60", () -> {
            Edge.inside(Scenes::threeRings, 10, 60, (x, depth) -> x.depth(3, 199, depth));
            Edge.outside(Edge.ARGUMENT, Scenes::threeRings, 10, 60, (x, depth) -> x.depth(3, 199, depth));
            Edge.outside(Edge.ARGUMENT, Scenes::threeRings, 10, 60, (x, depth) -> x.depth(0, 0, depth));
            Boringhead x = new Boringhead();
            x.depth(0, 0, 10);
            x.depth(199, 199, 60);
            Check.same("lower at 10", x.lower(0), 20);
            Check.same("upper at 60", x.upper(199), 480);
            Check.same("10 before", x.depth(0, 0, 60), 10);
            Check.same("60 before", x.depth(199, 199, 10), 60);
        });
        Sentence.of(5, "- `water`: 0 to 40", () -> {
            Edge.inside(Scenes::threeRings, 0, 40, (x, water) -> x.water(3, 199, water));
            Edge.outside(Edge.ARGUMENT, Scenes::threeRings, 0, 40, (x, water) -> x.water(3, 199, water));
            Edge.outside(Edge.ARGUMENT, Scenes::threeRings, 0, 40, (x, water) -> x.water(0, 0, water));
            Boringhead x = new Boringhead();
            x.water(0, 199, 40);
            Check.same("40 before", x.water(0, 0, 0), 40);
            Check.same("lower at 0", x.lower(0), 40);
            Check.same("lower at 40", x.lower(199), 440);
        });
        bends("- `right`: -20 to 20", (x, number) -> x.bend(3, 199, number, 0), (x, number) -> x.bend(0, 0, number, 0));
        bends("- `up`: -20 to 20", (x, number) -> x.bend(3, 199, 0, number), (x, number) -> x.bend(0, 0, 0, number));
    }

    private static void letters(int promise, String quote, KindTeller teller) {
        Consumer<Boringhead> scene = Scenes::threeRings;
        Sentence.of(promise, quote, () -> Edge.letters(scene, KINDS, (x, kind) -> teller.tell(x, 3, 199, kind)));
        Sentence.of(promise, "there is no such kind", () -> {
            Edge.otherLetters(Edge.ARGUMENT, scene, KINDS, (x, kind) -> teller.tell(x, 3, 199, kind));
            Edge.otherLetters(Edge.ARGUMENT, scene, KINDS, (x, kind) -> teller.tell(x, 0, 2, kind));
        });
    }

    private interface KindTeller {
        int tell(Boringhead x, int from, int to, char kind);
    }

    private static void bends(String quote, Edge.Numbered free, Edge.Numbered atRing) {
        Sentence.of(6, quote, () -> {
            Edge.inside(Scenes::threeRings, -20, 20, free);
            Edge.outside(Edge.ARGUMENT, Scenes::threeRings, -20, 20, free);
            Edge.outside(Edge.ARGUMENT, Scenes::threeRings, -20, 20, atRing);
        });
    }

    private static void promises7to9() {
        Sentence.of(7, "- `place`: the place", () -> Edge.inside(Scenes::fresh, 0, 199, (x, place) -> {
            x.bore(place, 'r');
            Check.same("guess at " + place, x.guess(place), 'r');
        }));
        Sentence.of(7, "- `kind`: the kind that was found", () -> Edge.letters(Scenes::fresh, KINDS, (x, kind) -> {
            x.bore(7, kind);
            Check.same("guess", x.guess(7), kind);
        }));
        Sentence.of(7, "Returns its number", () -> {
            Boringhead x = new Boringhead();
            for (int i = 0; i < 20; i++) {
                Check.same("number", x.bore(5, 's'), i);
            }
        });
        Sentence.of(7, "if the place is out of range", () -> {
            Edge.outside(Edge.ARGUMENT, Scenes::fresh, 0, 199, (x, place) -> x.bore(place, 'c'));
            Edge.outside(Edge.ARGUMENT, EdgesOfGround::twenty, 0, 199, (x, place) -> x.bore(place, 'c'));
        });
        Sentence.of(7, "there is no such kind", () -> {
            Edge.otherLetters(Edge.ARGUMENT, Scenes::fresh, KINDS, (x, kind) -> x.bore(0, kind));
            Edge.otherLetters(Edge.ARGUMENT, EdgesOfGround::twenty, KINDS, (x, kind) -> x.bore(199, kind));
        });
        Sentence.of(7, "if there are 20", () -> {
            Boringhead x = new Boringhead();
            for (int i = 0; i < 19; i++) {
                x.bore(i, 'c');
            }
            Check.same("the 20th", x.bore(199, 's'), 19);
            Check.same("counts", x.guess(199), 's');
            Edge.refused("the 21st", Edge.STATE, EdgesOfGround::twenty, y -> y.bore(199, 'b'));
        });
        Sentence.of(8, "- `place`: the place", () -> Edge.inside(Scenes::threeRings, 0, 199, Boringhead::guess));
        Sentence.of(8, "c, s, r, b or ?", () -> {
            Boringhead x = Edge.made(EdgesOfGround::twenty);
            Check.same("c", x.guess(0), 'c');
            Check.same("s", x.guess(10), 's');
            Check.same("r", x.guess(20), 'r');
            Check.same("b", x.guess(190), 'b');
            Check.same("?", new Boringhead().guess(190), '?');
        });
        Sentence.of(8, "if it is out of range", () -> Edge.outside(Edge.ARGUMENT, Scenes::threeRings, 0, 199, Boringhead::guess));
        Sentence.of(9, "- `place`: the place", () -> Edge.inside(Scenes::threeRings, 0, 199, Boringhead::doubt));
        Sentence.of(9, "Returns thousandths", EdgesOfGround::thousandths);
        Sentence.of(9, "if it is out of range", () -> Edge.outside(Edge.ARGUMENT, Scenes::threeRings, 0, 199, Boringhead::doubt));
    }

    private static void thousandths() {
        Boringhead x = new Boringhead();
        Check.same("the most", x.doubt(5), 1000);
        x.bore(5, 'c');
        Check.same("the least", x.doubt(5), 0);
        x.bore(15, 's');
        Check.same("1 of 12", x.doubt(5), 84);
        x.bore(5, 's');
        Check.same("12 of 23", x.doubt(5), 1000 - 12000 / 23);
    }
}
