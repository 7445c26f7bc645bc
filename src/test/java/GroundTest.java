/** Promises 1 to 9: a new object, what is told of places, boreholes and guesses. */
public final class GroundTest {
    private static final Class<IllegalArgumentException> ARGUMENT = IllegalArgumentException.class;
    private static final Class<UnsupportedOperationException> UNSUPPORTED = UnsupportedOperationException.class;
    private static final Class<IllegalStateException> STATE = IllegalStateException.class;
    private static final int[][] NO_STRETCHES = {
        {-1, 3}, {0, 200}, {200, 200}, {5, 4}, {Integer.MIN_VALUE, 0}, {0, Integer.MAX_VALUE}, {-3, -1}};
    private static final char[] NO_KINDS = {'x', 'C', '?', '-', 'g', 0, 'c' + 256, 65535};

    public static void main(String[] args) {
        newObject();
        ground();
        reference();
        depth();
        water();
        bend();
        bore();
        guess();
        doubt();
        Check.end();
    }

    private static void newObject() {
        Boringhead x = new Boringhead();
        Check.same("rings of a new one", x.rings(), 0);
        Check.same("its clock", x.now(), 0);
        Check.same("its muck", x.muck(), 0);
        Check.same("its guess", x.guess(0), '?');
        Check.same("its heading", x.heading(true), 0);
        Check.same("its checksum", x.checksum(), 217);
        Check.same("its soundness", x.isSound(), true);
        Check.refused("its first house", IndexOutOfBoundsException.class, Scenes::fresh, y -> y.tilt(0));
        Check.same("its first borehole", x.bore(0, 'c'), 0);
        Check.same("its first house", x.house(0, 0, 0), 0);
        Boringhead other = new Boringhead();
        x.pressure(100);
        Check.same("pressure of another object", other.pressure(5), 0);
    }

    private static void ground() {
        Boringhead x = new Boringhead();
        Check.same("ground told as it is", x.ground(0, 199, 'c'), 0);
        Check.same("ground 3..5", x.ground(3, 5, 's'), 3);
        Check.same("ground 5..8", x.ground(5, 8, 's'), 3);
        Check.same("ground 199", x.ground(199, 199, 'r'), 1);
        Check.same("ground 0..199", x.ground(0, 199, 'b'), 200);
        Check.same("upper of boulders", x.upper(198), 140);
        x.ground(2, 3, 's');
        Check.same("upper ahead of the stretch", x.upper(1), 140);
        Check.same("upper at its first place", x.upper(2), 100);
        Check.same("upper at its last place", x.upper(3), 100);
        Check.same("upper behind it", x.upper(4), 140);
        for (int[] row : NO_STRETCHES) {
            Check.refused("ground " + row[0] + ".." + row[1], ARGUMENT, Scenes::threeRings, y -> y.ground(row[0], row[1], 's'));
        }
        for (char kind : NO_KINDS) {
            Check.refused("ground of kind " + (int) kind, ARGUMENT, Scenes::threeRings, y -> y.ground(0, 9, kind));
        }
        Check.refused("ground at a ring", UNSUPPORTED, Scenes::threeRings, y -> y.ground(2, 9, 's'));
        Check.refused("ground at all rings", UNSUPPORTED, Scenes::threeRings, y -> y.ground(0, 2, 'c'));
        Scenes.clay(x = new Boringhead(), 3);
        Check.same("ground behind the rings", x.ground(3, 9, 's'), 7);
    }

    private static void reference() {
        Boringhead x = new Boringhead();
        Check.same("reference told as it is", x.reference(0, 199, 'c'), 0);
        Check.same("reference 0..1", x.reference(0, 1, 'r'), 2);
        Check.same("reference 1..2", x.reference(1, 2, 'r'), 1);
        Check.same("reference leaves the ground", x.ground(0, 3, 'c'), 0);
        for (int[] row : NO_STRETCHES) {
            Check.refused("reference " + row[0] + ".." + row[1], ARGUMENT, Scenes::threeRings, y -> y.reference(row[0], row[1], 's'));
        }
        for (char kind : NO_KINDS) {
            Check.refused("reference of kind " + (int) kind, ARGUMENT, Scenes::threeRings, y -> y.reference(0, 9, kind));
        }
        Check.refused("reference at a ring", UNSUPPORTED, Scenes::threeRings, y -> y.reference(2, 2, 's'));
        Scenes.clay(x = new Boringhead(), 3);
        Check.same("reference behind the rings", x.reference(3, 3, 's'), 1);
    }

    private static void depth() {
        Boringhead x = new Boringhead();
        Check.same("depth at first", x.depth(5, 9, 60), 20);
        Check.same("depth of the first one", x.depth(4, 9, 10), 20);
        Check.same("depth of the first one then", x.depth(9, 9, 30), 10);
        Check.same("lower by depth 10", x.lower(8), 20);
        Check.same("lower by depth 30", x.lower(9), 60);
        Check.same("lower behind the stretch", x.lower(10), 40);
        for (int[] row : NO_STRETCHES) {
            Check.refused("depth " + row[0] + ".." + row[1], ARGUMENT, Scenes::threeRings, y -> y.depth(row[0], row[1], 30));
        }
        for (int depth : new int[] {9, 61, -20, Integer.MAX_VALUE}) {
            Check.refused("depth of " + depth, ARGUMENT, Scenes::threeRings, y -> y.depth(0, 9, depth));
        }
        Check.refused("depth at a ring", UNSUPPORTED, Scenes::threeRings, y -> y.depth(2, 9, 30));
        Scenes.clay(x = new Boringhead(), 3);
        Check.same("depth behind the rings", x.depth(3, 199, 30), 20);
    }

    private static void water() {
        Boringhead x = new Boringhead();
        Check.same("water at first", x.water(5, 9, 40), 0);
        Check.same("water of the first one", x.water(9, 199, 7), 40);
        Check.same("water again", x.water(9, 9, 0), 7);
        Check.same("lower by water 40", x.lower(8), 440);
        Check.same("lower by water 7", x.lower(199), 110);
        for (int[] row : NO_STRETCHES) {
            Check.refused("water " + row[0] + ".." + row[1], ARGUMENT, Scenes::threeRings, y -> y.water(row[0], row[1], 3));
        }
        for (int water : new int[] {-1, 41, Integer.MIN_VALUE}) {
            Check.refused("water of " + water, ARGUMENT, Scenes::threeRings, y -> y.water(0, 9, water));
        }
        Check.refused("water at a ring", UNSUPPORTED, Scenes::threeRings, y -> y.water(2, 9, 3));
        Scenes.clay(x = new Boringhead(), 3);
        Check.same("water behind the rings", x.water(3, 3, 3), 0);
    }

    private static void bend() {
        Boringhead x = new Boringhead();
        Check.same("bend of all places", x.bend(0, 199, 1, 2), 200);
        Check.same("bend told again", x.bend(0, 0, 1, 2), 1);
        x.bend(1, 1, -20, 20);
        Scenes.clay(x, 2);
        Check.same("off to the right by the bends", x.off(1, false), -1 + 19);
        Check.same("off up by the bends", x.off(1, true), 8 - 22);
        for (int[] row : NO_STRETCHES) {
            Check.refused("bend " + row[0] + ".." + row[1], ARGUMENT, Scenes::threeRings, y -> y.bend(row[0], row[1], 1, 1));
        }
        for (int turn : new int[] {-21, 21, Integer.MIN_VALUE}) {
            Check.refused("bend to the right by " + turn, ARGUMENT, Scenes::threeRings, y -> y.bend(0, 9, turn, 0));
            Check.refused("bend up by " + turn, ARGUMENT, Scenes::threeRings, y -> y.bend(0, 9, 0, turn));
        }
        Check.refused("bend at a ring", UNSUPPORTED, Scenes::threeRings, y -> y.bend(2, 9, 1, 1));
        Scenes.clay(x = new Boringhead(), 3);
        Check.same("bend behind the rings", x.bend(3, 4, 20, -20), 2);
    }

    private static void twentyBoreholes(Boringhead x) {
        for (int i = 0; i < 20; i++) {
            x.bore(i, 's');
        }
    }

    private static void bore() {
        Boringhead x = new Boringhead();
        for (int i = 0; i < 20; i++) {
            Check.same("borehole", x.bore(i % 2 * 199, 'r'), i);
        }
        Scenes.clay(x = new Boringhead(), 3);
        Check.same("borehole at a ring", x.bore(1, 'r'), 0);
        for (int place : new int[] {-1, 200, Integer.MIN_VALUE, Integer.MAX_VALUE}) {
            Check.refused("borehole at " + place, ARGUMENT, GroundTest::twentyBoreholes, y -> y.bore(place, 'c'));
        }
        for (char kind : NO_KINDS) {
            Check.refused("borehole of kind " + (int) kind, ARGUMENT, GroundTest::twentyBoreholes, y -> y.bore(0, kind));
        }
        Check.refused("borehole 20", STATE, GroundTest::twentyBoreholes, y -> y.bore(0, 'c'));
    }

    private static void guess() {
        Boringhead x = new Boringhead();
        x.bore(20, 'b');
        Check.same("guess 10 places behind", x.guess(10), 'b');
        Check.same("guess 11 places behind", x.guess(9), '?');
        Check.same("guess 10 places ahead", x.guess(30), 'b');
        Check.same("guess 11 places ahead", x.guess(31), '?');
        x.bore(20, 'r');
        Check.same("guess of two of like weight", x.guess(20), 'r');
        x.bore(22, 's');
        Check.same("guess nearer the third", x.guess(22), 's');
        Check.same("guess of three of like weight", x.guess(21), 's');
        x.bore(20, 'c');
        Check.same("guess of four of like weight", x.guess(21), 'c');
        x.bore(25, 'b');
        Check.same("guess of weights summed", x.guess(21), 'b');
        x.ground(0, 2, 'c');
        x.bore(0, 's');
        Scenes.clay(x, 3);
        Check.same("guess at a ring", x.guess(2), 'c');
        Check.same("guess behind the rings", x.guess(3), 's');
        for (int place : new int[] {-1, 200, Integer.MAX_VALUE}) {
            Check.refused("guess at " + place, ARGUMENT, Scenes::fresh, y -> y.guess(place));
        }
    }

    private static void doubt() {
        Boringhead x = new Boringhead();
        Check.same("doubt without boreholes", x.doubt(199), 1000);
        x.bore(4, 's');
        Check.same("doubt with one kind", x.doubt(14), 0);
        Check.same("doubt too far away", x.doubt(15), 1000);
        x.bore(8, 'r');
        Check.same("doubt with two kinds", x.doubt(7), 1000 - 10000 / 18);
        Check.same("doubt with like weights", x.doubt(6), 500);
        x.bore(8, 's');
        Check.same("doubt of weights summed", x.doubt(8), 1000 - 18000 / 29);
        x.bore(18, 'c');
        Check.same("doubt with clay at its edge", x.doubt(8), 1000 - 18000 / 30);
        x.bore(9, 'b');
        Check.same("doubt with all four kinds", x.doubt(8), 1000 - 18000 / 40);
        Scenes.clay(x, 3);
        Check.same("doubt at a ring", x.doubt(2), 0);
        Check.same("doubt behind the rings", x.doubt(3), 1000 - 16000 / 27);
        for (int place : new int[] {-1, 200, Integer.MIN_VALUE}) {
            Check.refused("doubt at " + place, ARGUMENT, Scenes::fresh, y -> y.doubt(place));
        }
    }
}
