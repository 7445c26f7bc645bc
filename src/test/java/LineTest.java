/** Promises 19 to 25: rings, places off the line, headings, rotations, plans. */
public final class LineTest {
    private static final Class<IllegalArgumentException> ARGUMENT = IllegalArgumentException.class;
    private static final Class<IndexOutOfBoundsException> INDEX = IndexOutOfBoundsException.class;
    private static final int[] NO_RINGS = {-1, 3, 120, Integer.MIN_VALUE, Integer.MAX_VALUE};

    public static void main(String[] args) {
        rings();
        turns();
        offAndHeading();
        rotation();
        plan();
        planAsJacksAndBendsGo();
        planOfLikeRows();
        planWithoutRoom();
        offRings();
        Check.end();
    }

    private static void rings() {
        Boringhead x = new Boringhead();
        Check.same("rings at first", x.rings(), 0);
        Scenes.clay(x, 3);
        Check.same("rings then", x.rings(), 3);
    }

    private static void turns() {
        int[] right = {0, 7, 10, 7, 0, -7, -10, -7};
        int[] up = {10, 7, 0, -7, -10, -7, 0, 7};
        for (int rotation = 0; rotation < 8; rotation++) {
            Boringhead x = new Boringhead();
            x.pressure(100);
            x.deliver(1);
            x.advance(rotation);
            Check.same("right by rotation " + rotation, x.off(0, false), right[rotation]);
            Check.same("up by rotation " + rotation, x.off(0, true), up[rotation]);
            Check.same("heading to the right by it", x.heading(false), right[rotation]);
            Check.same("heading up by it", x.heading(true), up[rotation]);
        }
    }

    private static void offAndHeading() {
        Boringhead x = new Boringhead();
        x.bend(1, 1, 3, -4);
        x.pressure(100);
        x.deliver(3);
        x.advance(1);
        x.steer(2, -1);
        x.advance(2);
        x.steer(-5, 5);
        x.advance(3);
        Check.same("right of ring 0", x.off(0, false), 7);
        Check.same("up of ring 0", x.off(0, true), 7);
        Check.same("right of ring 1", x.off(1, false), 7 + 16);
        Check.same("up of ring 1", x.off(1, true), 7 + 10);
        Check.same("right of ring 2", x.off(2, false), 23 + 18);
        Check.same("up of ring 2", x.off(2, true), 17 + 8);
        Check.same("heading to the right", x.heading(false), 18);
        Check.same("heading up", x.heading(true), 8);
        for (int ring : NO_RINGS) {
            Check.refused("off of ring " + ring, INDEX, Scenes::threeRings, y -> y.off(ring, true));
        }
        Check.refused("off without rings", INDEX, Scenes::fresh, y -> y.off(0, false));
    }

    private static void rotation() {
        Boringhead x = new Boringhead();
        x.pressure(100);
        x.deliver(3);
        x.advance(7);
        x.advance(0);
        x.advance(5);
        Check.same("rotation of ring 0", x.rotation(0), 7);
        Check.same("rotation of ring 1", x.rotation(1), 0);
        Check.same("rotation of ring 2", x.rotation(2), 5);
        for (int ring : NO_RINGS) {
            Check.refused("rotation of ring " + ring, INDEX, Scenes::threeRings, y -> y.rotation(ring));
        }
    }

    private static void plan() {
        Boringhead x = new Boringhead();
        Check.same("plan 1 at first", x.plan(1), 1);
        Check.same("squares 1 at first", x.squares(1), 98);
        x.pressure(100);
        x.deliver(40);
        x.advance(0);
        Check.same("plan 1", x.plan(1), 4);
        Check.same("squares 1", x.squares(1), 100);
        Check.same("plan 2", x.plan(2), 4);
        Check.same("squares 2", x.squares(2), 158);
        long sum = x.squares(3);
        int first = x.plan(3);
        Check.same("a plan changes nothing", x.off(0, true), 10);
        Check.same("a plan changes no heading", x.heading(true), 10);
        Check.same("plan 3 by all rows", first * 1000000L + sum, byAllRows(0));
        for (int rings : new int[] {0, 4, -1, Integer.MAX_VALUE, Integer.MIN_VALUE}) {
            Check.refused("plan for " + rings, ARGUMENT, Scenes::threeRings, y -> y.plan(rings));
            Check.refused("squares for " + rings, ARGUMENT, Scenes::threeRings, y -> y.squares(rings));
        }
    }

    /** Drives each row of three rotations behind a first ring, and answers the best: its first one and its squares. */
    private static long byAllRows(int ahead) {
        long best = -1;
        long least = Long.MAX_VALUE;
        for (int row = 0; row < 512; row++) {
            int a = row / 64;
            int b = row / 8 % 8;
            int c = row % 8;
            if (a != ahead && a != b && b != c) {
                long sum = driven(ahead, a, b, c);
                if (sum < least) {
                    least = sum;
                    best = a * 1000000L + sum;
                }
            }
        }
        return best;
    }

    private static long driven(int... rotations) {
        Boringhead x = new Boringhead();
        x.pressure(100);
        x.deliver(40);
        long sum = 0;
        for (int i = 0; i < rotations.length; i++) {
            x.advance(rotations[i]);
            if (i > 0) {
                sum += (long) x.off(i, false) * x.off(i, false) + (long) x.off(i, true) * x.off(i, true);
            }
        }
        return sum;
    }

    private static void planAsJacksAndBendsGo() {
        Boringhead x = new Boringhead();
        x.steer(0, -5);
        Check.same("plan with the jacks", x.plan(1), 0);
        Check.same("squares with the jacks", x.squares(1), 25);
        x.bend(0, 0, -10, -5);
        Check.same("plan with the bend", x.plan(1), 6);
        Check.same("squares with the bend", x.squares(1), 0);
        x.bend(2, 2, 20, 20);
        Check.same("squares of 2 by the bends up to there", x.squares(2), 25);
        x.bend(1, 1, 20, 20);
        Check.same("squares of 2 by the bend at the second", x.squares(2), 3 * 3 + 7 * 7 + 7 * 7 + 4 * 4);
    }

    private static void planOfLikeRows() {
        Boringhead x = new Boringhead();
        Check.same("of four like rotations the first", x.plan(1), 1);
        x.pressure(100);
        x.deliver(2);
        x.advance(1);
        x.bend(1, 1, 14, 14);
        Check.same("not that of the ring ahead", x.plan(1), 3);
        Check.same("its squares", x.squares(1), 49 + 49);
    }

    private static void planWithoutRoom() {
        Boringhead x = new Boringhead();
        Scenes.whole(x);
        int first = x.plan(3);
        Check.same("a plan behind the last ring is of a rotation", first >= 0 && first < 8 && first != 4, true);
        Check.same("its squares", x.squares(1) > 0, true);
    }

    private static void offRings() {
        Boringhead x = new Boringhead();
        x.pressure(100);
        x.deliver(40);
        x.bend(0, 1, 0, -20);
        x.advance(0);
        x.advance(2);
        Check.same("up of ring 1", x.off(1, true), 30 + 50);
        Check.same("off up", x.offRings(), 1);
        for (boolean isUp : new boolean[] {false, true}) {
            offBy(50, isUp, 0);
            offBy(51, isUp, 1);
            offBy(-50, isUp, 0);
            offBy(-51, isUp, 1);
        }
    }

    /** Two rings, the second so far off the line to one side alone. */
    private static void offBy(int off, boolean isUp, int due) {
        int sign = off > 0 ? 1 : -1;
        Boringhead x = new Boringhead();
        x.pressure(100);
        x.deliver(2);
        if (isUp) {
            x.bend(0, 0, 10, -20 * sign);
            x.bend(1, 1, 0, 50 * sign - off);
            x.advance(2);
            x.advance(sign > 0 ? 0 : 4);
        } else {
            x.bend(0, 0, -20 * sign, 10);
            x.bend(1, 1, 50 * sign - off, 0);
            x.advance(0);
            x.advance(sign > 0 ? 2 : 6);
        }
        Check.same("off by", x.off(1, isUp), off);
        Check.same("off to the other", x.off(1, !isUp), 0);
        Check.same("rings off by " + off, x.offRings(), due);
    }
}
