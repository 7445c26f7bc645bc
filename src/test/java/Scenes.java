/** Runs of calls that many tests begin with. */
final class Scenes {
    private Scenes() {
    }

    static void fresh(Boringhead x) {
    }

    /** Clay, and so many rings (30 at most), with the rotations 0 and 4 in turn; the first ten take 30 minutes each. */
    static void clay(Boringhead x, int rings) {
        x.pressure(100);
        x.deliver(40);
        for (int i = 0; i < rings; i++) {
            x.advance(i % 2 == 0 ? 0 : 4);
        }
    }

    static void threeRings(Boringhead x) {
        clay(x, 3);
    }

    /** Boulders where clay was expected, and three rings: events of 40 minutes each; the cutters 0 and 1 are worn out. */
    static void boulders(Boringhead x) {
        x.ground(0, 40, 'b');
        clay(x, 3);
    }

    static void waitUntil(Boringhead x, int minute) {
        int left = minute - x.now();
        while (left > 0) {
            x.pause(Math.min(1440, left), 'w', '-');
            left -= 1440;
        }
    }

    /** All 120 rings in clay, in some 150 calls. */
    static void whole(Boringhead x) {
        driven(x, 120, 0, 4);
    }

    /** So many rings in clay, with two rotations in turn; behind each thirty, the pit is too full for one more. */
    static void driven(Boringhead x, int rings, int even, int odd) {
        x.pressure(100);
        for (int i = 0; i < rings; i++) {
            if (i % 40 == 0) {
                x.deliver(40);
            }
            if (i > 0 && i % 30 == 0) {
                emptyPit(x);
            }
            if (i == 50 || i == 100) {
                changeCutters(x, i == 50 ? 2 : 8);
            }
            x.advance(i % 2 == 0 ? even : odd);
        }
    }

    static void emptyPit(Boringhead x) {
        int day = x.now() / 1440 * 1440;
        if (x.now() >= day + 1320) {
            day += 1440;
        }
        waitUntil(x, day + 360);
        x.lorries(100);
    }

    private static void changeCutters(Boringhead x, int many) {
        for (int i = 0; i < many; i++) {
            x.change(i);
        }
    }
}
