import java.util.function.Consumer;

/** The boundaries of the line, of headings, places off it and plans, and of the promises 19 to 25. */
final class EdgesOfLine {
    private static final int[] RIGHT = {0, 7, 10, 7, 0, -7, -10, -7};
    private static final int[] UP = {10, 7, 0, -7, -10, -7, 0, 7};

    private EdgesOfLine() {
    }

    static void all() {
        line();
        offTheLine();
        plans();
        promises19to22();
        promises23to25();
    }

    private static Boringhead ready() {
        Boringhead x = new Boringhead();
        ready(x);
        return x;
    }

    private static void ready(Boringhead x) {
        x.pressure(100);
        x.deliver(40);
    }

    // ---- the line

    private static void line() {
        Sentence.of("The line turns at each place by what is told, to the right and up, -20 to 20", () -> {
            for (int bend : new int[] {-20, -19, -1, 0, 1, 19, 20}) {
                Boringhead x = ready();
                x.bend(0, 0, bend, -bend);
                x.advance(2);
                Check.same("right by " + bend, x.heading(false), 10 - bend);
                Check.same("up by " + -bend, x.heading(true), bend);
            }
        });
        Sentence.of("to the right and up, -20 to 20, 0 at first", () -> {
            Boringhead x = Edge.made(y -> Scenes.driven(y, 120, 0, 4));
            Check.same("no bend to the right up to 119", x.off(119, false), 0);
            Check.same("no bend up up to 119", x.off(119, true), 600);
            Check.same("no heading then", x.heading(true), 0);
        });
        Sentence.of("The shield has a heading off it, and a place off it, to the right and up, all 0 at first", () -> {
            Boringhead x = ready();
            Check.same("right", x.heading(false), 0);
            Check.same("up", x.heading(true), 0);
            x.bend(0, 0, 10, 0);
            x.advance(2);
            Check.same("place to the right", x.off(0, false), 0);
            Check.same("place up", x.off(0, true), 0);
        });
        Sentence.of("A ring has a rotation, 0 to 7", () -> {
            Edge.inside(EdgesOfLine::ready, 0, 7, Boringhead::advance);
            Edge.outside(Edge.ARGUMENT, EdgesOfLine::ready, 0, 7, Boringhead::advance);
        });
        Sentence.of("that turns to the right by 0, 7, 10, 7, 0, -7, -10, -7", () -> turns(false, 0, 7, 10, 7, 0, -7, -10, -7));
        Sentence.of("and up by 10, 7, 0, -7, -10, -7, 0, 7", () -> turns(true, 10, 7, 0, -7, -10, -7, 0, 7));
        Sentence.of("how the jacks push, -5 to 5 to each, 0 at first", EdgesOfLine::jacks);
        Sentence.of("less by what the line turns at its place", EdgesOfLine::bendsAtItsPlace);
        Sentence.of("then the place off it is more by the heading", () -> {
            Boringhead x = ready();
            x.bend(0, 0, 20, -20);
            x.advance(2);
            Check.same("right of ring 0", x.off(0, false), -10);
            Check.same("up of ring 0", x.off(0, true), 20);
            x.advance(1);
            Check.same("right of ring 1", x.off(1, false), -10 + -3);
            Check.same("up of ring 1", x.off(1, true), 20 + 27);
            x.advance(0);
            Check.same("right of ring 2", x.off(2, false), -13 - 3);
            Check.same("up of ring 2", x.off(2, true), 47 + 37);
        });
    }

    private static void turns(boolean isUp, int... due) {
        for (int rotation = 0; rotation < 8; rotation++) {
            Boringhead x = ready();
            x.advance(rotation);
            Check.same("by rotation " + rotation, x.heading(isUp), due[rotation]);
            x.advance((rotation + 1) % 8);
            Check.same("by the next one too", x.heading(isUp), due[rotation] + due[(rotation + 1) % 8]);
        }
    }

    private static void jacks() {
        Boringhead x = ready();
        x.advance(2);
        Check.same("right at first", x.heading(false), 10);
        Check.same("up at first", x.heading(true), 0);
        for (int push = -5; push <= 5; push++) {
            Boringhead y = ready();
            y.steer(push, 0);
            y.advance(0);
            Check.same("right by " + push, y.heading(false), push);
            Check.same("up all the same", y.heading(true), 10);
            Boringhead z = ready();
            z.steer(0, push);
            z.advance(2);
            Check.same("up by " + push, z.heading(true), push);
            z.advance(6);
            Check.same("up by it again", z.heading(true), 2 * push);
        }
    }

    private static void bendsAtItsPlace() {
        Boringhead x = ready();
        x.bend(1, 1, 20, -20);
        x.advance(0);
        Check.same("right ahead of it", x.heading(false), 0);
        Check.same("up ahead of it", x.heading(true), 10);
        x.advance(4);
        Check.same("right at it", x.heading(false), -20);
        Check.same("up at it", x.heading(true), 20);
        x.advance(0);
        Check.same("right behind it", x.heading(false), -20);
        Check.same("up behind it", x.heading(true), 30);
        Boringhead y = Edge.made(z -> {
            z.bend(119, 119, -20, 20);
            z.bend(120, 120, 20, 20);
            Scenes.whole(z);
        });
        Check.same("right at 119", y.heading(false), 20);
        Check.same("up at 119", y.heading(true), -20);
    }

    // ---- rings that are off

    private static void offTheLine() {
        Sentence.of("A ring is off if one of both is more than 50 to whichever side", () -> {
            for (int sign = -1; sign <= 1; sign += 2) {
                for (int other : new int[] {0, 50, -50}) {
                    off(49 * sign, other, 0);
                    off(50 * sign, other, 0);
                    off(51 * sign, other, 1);
                    off(other, 49 * sign, 0);
                    off(other, 50 * sign, 0);
                    off(other, 51 * sign, 1);
                }
                off(51 * sign, 51, 1);
                off(-51, 51 * sign, 1);
            }
        });
    }

    /** Two rings, the first so far off the line by half, the second one by the whole. */
    private static void off(int right, int up, int due) {
        Boringhead x = ready();
        turned(x, right / 2, up / 2);
        turned(x, right % 2, up % 2);
        Check.same("right", x.off(1, false), right);
        Check.same("up", x.off(1, true), up);
        Check.same("rings off by " + right + " and " + up, x.offRings(), due);
    }

    /** A ring that turns the heading just so, by its rotation, the jacks and the bend. */
    private static void turned(Boringhead x, int right, int up) {
        int place = x.rings();
        int pushRight = Math.max(-5, Math.min(5, right));
        int pushUp = Math.max(-5, Math.min(5, up));
        x.steer(pushRight, pushUp);
        for (int rotation = 0; rotation < 8; rotation++) {
            int bendRight = RIGHT[rotation] + pushRight - right;
            int bendUp = UP[rotation] + pushUp - up;
            if (x.rings() == place && Math.abs(bendRight) <= 20 && Math.abs(bendUp) <= 20 && x.bars(rotation) == '-') {
                x.bend(place, place, bendRight, bendUp);
                x.advance(rotation);
            }
        }
        Check.same("a ring more", x.rings(), place + 1);
    }

    // ---- plans

    private static void plans() {
        Sentence.of("The plan for so many rings, 1 to 3", () -> {
            Edge.inside(Scenes::threeRings, 1, 3, Boringhead::plan);
            Edge.inside(Scenes::threeRings, 1, 3, Boringhead::squares);
            Edge.outside(Edge.ARGUMENT, Scenes::threeRings, 1, 3, Boringhead::plan);
        });
        Sentence.of("that row of rotations, each unlike that of the ring ahead", EdgesOfLine::unlike);
        Sentence.of("the squares of both places off the line, summed over these rings, are least", EdgesOfLine::least);
        Sentence.of("the jacks pushing as they do", EdgesOfLine::pushing);
        Sentence.of("of several the first one by its rotations", EdgesOfLine::firstOfSeveral);
    }

    private static void unlike() {
        Boringhead x = ready();
        x.bend(0, 2, 0, 10);
        Check.same("the best of one", x.plan(1), 0);
        Check.same("its squares", x.squares(1), 0);
        asDriven("two alike would be best", y -> y.bend(0, 2, 0, 10));
        x.advance(0);
        Check.same("not that of the ring ahead", x.plan(1), 1);
        Check.same("its squares then", x.squares(1), 49 + 9);
        Boringhead between = ready();
        between.bend(0, 0, 0, 10);
        between.bend(1, 1, 0, -10);
        between.bend(2, 2, 0, 10);
        Check.same("the first and the third may be alike", between.squares(3), 0);
        Check.same("the first", between.plan(3), 0);
        for (int ahead = 0; ahead < 8; ahead++) {
            Boringhead y = ready();
            y.advance(ahead);
            for (int many = 1; many <= 3; many++) {
                Check.same("unlike " + ahead, y.plan(many) != ahead, true);
            }
        }
    }

    private static void least() {
        asDriven("new", y -> { });
        asDriven("behind three", y -> three(y, 1, 2, 1));
        asDriven("behind three others", y -> three(y, 7, 0, 6));
        asDriven("with bends", y -> {
            y.bend(0, 0, 20, -20);
            y.bend(1, 1, -20, -7);
            y.bend(2, 2, 3, 20);
        });
        asDriven("with a bend at the third", y -> y.bend(2, 2, 20, 20));
        asDriven("with bends behind three", y -> {
            three(y, 3, 4, 2);
            y.bend(3, 3, 20, 13);
            y.bend(5, 5, -11, -20);
        });
    }

    private static void three(Boringhead x, int a, int b, int c) {
        x.advance(a);
        x.advance(b);
        x.advance(c);
    }

    private static void pushing() {
        asDriven("jacks to the right", y -> y.steer(5, 0));
        asDriven("jacks to the left and up", y -> y.steer(-5, 5));
        asDriven("jacks behind three", y -> {
            three(y, 0, 1, 0);
            y.steer(4, -5);
        });
        Boringhead x = ready();
        x.steer(0, -5);
        Check.same("with the jacks", x.squares(1), 25);
        x.steer(0, 0);
        Check.same("without them", x.squares(1), 98);
    }

    private static void firstOfSeveral() {
        Boringhead x = ready();
        Check.same("of 1, 3, 5, 7", x.plan(1), 1);
        x.bend(0, 0, 10, 10);
        Check.same("of 1 alone", x.plan(1), 1);
        x.bend(0, 0, 5, 5);
        Check.same("of 1 alone still", x.squares(1), 8);
        x.bend(0, 0, 0, -5);
        Check.same("of 4 alone", x.plan(1), 4);
        x.bend(0, 0, -8, 0);
        Check.same("of 6 alone", x.plan(1), 6);
        x.bend(0, 0, 0, 0);
        x.advance(1);
        x.bend(1, 1, 14, 14);
        Check.same("of 3, 5, 7", x.plan(1), 3);
        asDriven("behind 1", y -> y.advance(1));
        asDriven("behind 1 with a bend", y -> {
            y.advance(1);
            y.bend(1, 1, 14, 14);
        });
    }

    /** The plans for one to three rings are those that driving each row shows as the best. */
    private static void asDriven(String name, Consumer<Boringhead> scene) {
        for (int many = 1; many <= 3; many++) {
            long least = Long.MAX_VALUE;
            int first = -1;
            for (int row = 0; row < 1 << 3 * many; row++) {
                long sum = driven(scene, row, many);
                if (sum >= 0 && sum < least) {
                    least = sum;
                    first = row >> 3 * (many - 1);
                }
            }
            Boringhead x = ready();
            scene.accept(x);
            Check.same(name + ", plan of " + many, x.plan(many), first);
            Check.same(name + ", squares of " + many, x.squares(many), least);
        }
    }

    private static long driven(Consumer<Boringhead> scene, int row, int many) {
        Boringhead x = ready();
        scene.accept(x);
        long sum = 0;
        for (int i = many - 1; i >= 0; i--) {
            int rotation = row >> 3 * i & 7;
            if (x.bars(rotation) == 'j') {
                return -1;
            }
            x.advance(rotation);
            long right = x.off(x.rings() - 1, false);
            long up = x.off(x.rings() - 1, true);
            sum += right * right + up * up;
        }
        return sum;
    }

    // ---- promises

    private static void promises19to22() {
        Sentence.of(19, "Returns how many.", () -> {
            Check.same("none", new Boringhead().rings(), 0);
            Check.same("one", Edge.made(x -> Scenes.clay(x, 1)).rings(), 1);
            Check.same("all", Edge.made(Scenes::whole).rings(), 120);
        });
        ring(20, (x, ring) -> x.off(ring, true));
        Sentence.of(20, "- `up`: whether up is meant, otherwise to the right", () -> {
            Boringhead x = ready();
            x.advance(1);
            x.advance(2);
            Check.same("up", x.off(1, true), 14);
            Check.same("to the right", x.off(1, false), 24);
        });
        Sentence.of(20, "Returns how far.", EdgesOfLine::howFar);
        Sentence.of(21, "- `up`: whether up is meant, otherwise to the right", () -> {
            Boringhead x = ready();
            x.advance(2);
            Check.same("up", x.heading(true), 0);
            Check.same("to the right", x.heading(false), 10);
        });
        Sentence.of(21, "Returns the heading.", () -> {
            Check.same("at first", new Boringhead().heading(true), 0);
            Boringhead x = ready();
            x.bend(0, 0, 20, 20);
            x.steer(-5, -5);
            x.advance(5);
            Check.same("right", x.heading(false), -32);
            Check.same("up", x.heading(true), -32);
            Check.same("behind 120 rings", Edge.made(EdgesOfLine::farOff).heading(false), 60 * 35 + 60 * 32);
        });
        ring(22, Boringhead::rotation);
        Sentence.of(22, "0 to 7", () -> {
            Boringhead x = ready();
            for (int i = 0; i < 8; i++) {
                x.advance(7 - i);
            }
            for (int i = 0; i < 8; i++) {
                Check.same("of ring " + i, x.rotation(i), 7 - i);
            }
            Check.same("of the last of 120", Edge.made(Scenes::whole).rotation(119), 4);
        });
    }

    /** The rings that there are, and those that there aren't, of a promise with a ring as its first argument. */
    private static void ring(int promise, Edge.Numbered call) {
        Sentence.of(promise, "- `ring`: the ring", () -> {
            Edge.inside(x -> Scenes.clay(x, 1), 0, 0, call);
            Edge.inside(Scenes::threeRings, 0, 2, call);
            Edge.inside(Scenes::whole, 0, 119, call);
        });
        Sentence.of(promise, "if there is no such ring", () -> {
            Edge.refused("0 without rings", Edge.INDEX, Scenes::fresh, x -> call.call(x, 0));
            Edge.outside(Edge.INDEX, Scenes::fresh, 0, -1, call);
            Edge.outside(Edge.INDEX, Scenes::threeRings, 0, 2, call);
            Edge.outside(Edge.INDEX, Scenes::whole, 0, 119, call);
        });
    }

    /** All rings turn to the right, the line to the left. */
    static void farOff(Boringhead x) {
        x.bend(0, 199, -20, -20);
        x.steer(5, 5);
        Scenes.driven(x, 120, 2, 1);
    }

    private static void howFar() {
        Boringhead x = Edge.made(EdgesOfLine::farOff);
        long right = 0;
        long up = 0;
        int headingRight = 0;
        int headingUp = 0;
        for (int ring = 0; ring < 120; ring++) {
            headingRight += ring % 2 == 0 ? 35 : 32;
            headingUp += ring % 2 == 0 ? 25 : 32;
            right += headingRight;
            up += headingUp;
            Check.same("right of " + ring, x.off(ring, false), right);
            Check.same("up of " + ring, x.off(ring, true), up);
        }
        Boringhead y = ready();
        y.advance(5);
        Check.same("below 0, right", y.off(0, false), -7);
        Check.same("below 0, up", y.off(0, true), -7);
    }

    private static void promises23to25() {
        for (int promise = 23; promise <= 24; promise++) {
            Edge.Numbered call = promise == 23 ? Boringhead::plan : Boringhead::squares;
            Sentence.of(promise, "- `rings`: for how many rings, 1 to 3", () -> {
                Edge.inside(Scenes::fresh, 1, 3, call);
                Edge.inside(Scenes::whole, 1, 3, call);
            });
            Sentence.of(promise, "if it is out of range", () -> {
                Edge.outside(Edge.ARGUMENT, Scenes::fresh, 1, 3, call);
                Edge.outside(Edge.ARGUMENT, Scenes::threeRings, 1, 3, call);
                Edge.outside(Edge.ARGUMENT, Scenes::whole, 1, 3, call);
            });
        }
        Sentence.of(23, "Returns the rotation", () -> {
            for (int rotation = 0; rotation < 8; rotation++) {
                Boringhead x = new Boringhead();
                x.bend(0, 0, RIGHT[rotation], UP[rotation]);
                Check.same("the best of one", x.plan(1), rotation);
            }
        });
        Sentence.of(24, "Returns the sum.", EdgesOfLine::sums);
        Sentence.of(25, "Returns how many.", () -> {
            Check.same("without rings", new Boringhead().offRings(), 0);
            Check.same("of 10, the last by 50", Edge.made(x -> Scenes.driven(x, 10, 0, 4)).offRings(), 0);
            Check.same("of 11, the last by 60", Edge.made(x -> Scenes.driven(x, 11, 0, 4)).offRings(), 1);
            Check.same("of 120", Edge.made(Scenes::whole).offRings(), 110);
            Boringhead back = ready();
            turned(back, 30, 0);
            Check.same("by 30", back.offRings(), 0);
            turned(back, 0, 0);
            Check.same("by 60", back.offRings(), 1);
            turned(back, -35, 0);
            Check.same("by 55", back.offRings(), 2);
            turned(back, -5, 0);
            Check.same("the last one", back.off(3, false), 45);
            Check.same("there and back", back.offRings(), 2);
        });
    }

    private static void sums() {
        Boringhead y = ready();
        y.bend(0, 0, 10, 0);
        Check.same("the least", y.squares(1), 0);
        Boringhead x = Edge.made(EdgesOfLine::farOff);
        long least = Long.MAX_VALUE;
        for (int rotation = 0; rotation < 8; rotation++) {
            long right = x.off(119, false) + x.heading(false) + RIGHT[rotation] + 25;
            long up = x.off(119, true) + x.heading(true) + UP[rotation] + 25;
            least = Math.min(least, rotation == 1 ? least : right * right + up * up);
        }
        Check.same("beyond int", least > Integer.MAX_VALUE, true);
        Check.same("behind 120 rings", x.squares(1), least);
    }
}
