/** What the class is, and the sentence that each promise begins with: what a call does to ordinary arguments. */
final class FirstSentences {
    private FirstSentences() {
    }

    static void all() {
        Sentence.of("A tunnel that is driven under a city, ring by ring: ground that is guessed from boreholes and met, a face that "
                + "is held by pressure in bounds, cutters that wear and are changed under air, rings whose rotations steer, a plan "
                + "ahead, grout that sets, settlements of houses with readings and alarms, segments, muck and lorries, waiting "
                + "with causes, and a contract that tells whose a delay is and which notice is late", FirstSentences::story);
        ground();
        boreholes();
        shield();
        driving();
        line();
        plans();
        grout();
        settlements();
        readings();
        stuff();
        time();
        contract();
        sums();
    }

    private static void story() {
        Boringhead x = new Boringhead();
        x.bore(1, 's');
        x.ground(1, 1, 's');
        x.water(0, 9, 12);
        x.house(0, 9, 10);
        Check.same("guessed", x.guess(0), 's');
        Check.same("held by no pressure", x.bars(x.plan(3)), 'p');
        x.pressure(210);
        x.deliver(2);
        // 1 and 5 stay at 7 and 7, by squares of 98 each; 0 and 4 would stay at 10.
        Check.same("the plan's first", x.plan(2), 1);
        x.advance(0);
        Check.same("met", x.guess(0), 'c');
        x.advance(4);
        Check.same("met in turn", x.guess(1), 's');
        Check.same("steered", x.off(1, true), 10);
        Check.same("worn", x.worn(0), 10);
        Check.same("changed under air", x.change(0), 50);
        Check.same("grout", x.grout(1, 100), 50);
        // 120 * 400 / (10 * (400 + 100)) = 9 and 50 * 400 / (10 * (400 + 1 + 100)) = 3
        Check.same("settled", x.read(0), 12);
        Check.same("alarm", x.alarm(0), 'g');
        Check.same("no segments", x.bars(1), 's');
        Check.same("waited", x.pause(1440, 's', 'w'), 1560);
        Check.same("the builder's", x.waited('b'), 1440);
        Edge.refused("grout that has set", Edge.UNSUPPORTED, FirstSentences::setting, y -> y.grout(0, 1));
        Scenes.waitUntil(x, 1440 + 360);
        Check.same("lorries", x.lorries(9), 125);
        Scenes.waitUntil(x, 70 + 4321);
        Check.same("a late notice", x.notice(1), false);
        Check.same("claimed", x.claimed(), 0);
    }

    private static void setting(Boringhead x) {
        Scenes.threeRings(x);
        x.grout(0, 50);
        x.pause(600, 's', '-');
    }

    // ---- promises 2 to 9

    private static void ground() {
        Sentence.of(2, "Tells the ground of places", () -> {
            Boringhead x = new Boringhead();
            x.ground(2, 3, 'r');
            bounds(x, 1, 40, 160);
            bounds(x, 2, 0, 400);
            bounds(x, 3, 0, 400);
            bounds(x, 4, 40, 160);
            Scenes.clay(x, 4);
            Check.same("rock that is met", x.count('r'), 2);
        });
        Sentence.of(3, "Tells the ground of places by the reference", () -> {
            Boringhead x = new Boringhead();
            x.ground(0, 3, 'r');
            x.reference(1, 2, 's');
            bounds(x, 1, 0, 400);
            Scenes.clay(x, 4);
            for (int ring = 0; ring < 4; ring++) {
                x.notice(ring);
                Check.same("claimed with ring " + ring, x.claimed(), new int[] {60, 110, 160, 220}[ring]);
            }
        });
        Sentence.of(4, "Tells the depth of places", () -> {
            Boringhead x = new Boringhead();
            x.depth(3, 5, 30);
            bounds(x, 2, 40, 160);
            bounds(x, 3, 60, 240);
            bounds(x, 5, 60, 240);
            bounds(x, 6, 40, 160);
        });
        Sentence.of(5, "Tells the water of places", () -> {
            Boringhead x = new Boringhead();
            x.water(3, 5, 7);
            bounds(x, 2, 40, 160);
            bounds(x, 3, 110, 230);
            bounds(x, 5, 110, 230);
            bounds(x, 6, 40, 160);
        });
        Sentence.of(6, "Tells how the line turns at places", () -> {
            Boringhead x = new Boringhead();
            x.bend(1, 1, 3, -2);
            Scenes.clay(x, 3);
            Check.same("right at 0", x.off(0, false), 0);
            Check.same("right at 1", x.off(1, false), -3);
            Check.same("right at 2", x.off(2, false), -6);
            Check.same("up at 0", x.off(0, true), 10);
            Check.same("up at 1", x.off(1, true), 12);
            Check.same("up at 2", x.off(2, true), 24);
        });
    }

    private static void bounds(Boringhead x, int place, int lower, int upper) {
        Check.same("lower at " + place, x.lower(place), lower);
        Check.same("upper at " + place, x.upper(place), upper);
    }

    private static void boreholes() {
        Sentence.of("each at a place, with a kind that was found", () -> {
            Boringhead x = new Boringhead();
            x.bore(50, 'r');
            x.bore(80, 'b');
            Check.same("at the one", x.guess(50), 'r');
            Check.same("at the other", x.guess(80), 'b');
            Check.same("between them", x.guess(65), '?');
        });
        Sentence.of(7, "Adds a borehole", () -> {
            Boringhead x = new Boringhead();
            x.bore(50, 'r');
            x.bore(50, 's');
            Check.same("the first one there", x.guess(50), 's');
            Check.same("doubt by both", x.doubt(50), 500);
            x.bore(54, 'r');
            Check.same("by two of three", x.guess(50), 'r');
            // 11 and 7 of 29
            Check.same("doubt by three", x.doubt(50), 380);
        });
        Sentence.of(8, "Returns the guess of a place", () -> {
            Boringhead x = new Boringhead();
            x.ground(0, 0, 's');
            Check.same("not by the ground", x.guess(0), '?');
            x.bore(4, 'b');
            Check.same("by the borehole", x.guess(0), 'b');
            Scenes.clay(x, 1);
            Check.same("by the ring", x.guess(0), 's');
            Check.same("ahead of it", x.guess(1), 'b');
        });
        Sentence.of(9, "Returns the doubt of a guess", () -> {
            Boringhead x = new Boringhead();
            Check.same("without boreholes", x.doubt(1), 1000);
            x.bore(0, 'c');
            Check.same("by one alone", x.doubt(1), 0);
            x.bore(5, 's');
            // 10 of 17: 588
            Check.same("by two", x.doubt(1), 412);
        });
    }

    // ---- promises 10 to 18

    private static void shield() {
        Sentence.of(10, "Sets the pressure", () -> {
            Boringhead x = new Boringhead();
            x.deliver(1);
            x.pressure(39);
            Check.same("too low", x.bars(0), 'p');
            x.pressure(100);
            Check.same("within its bounds", x.bars(0), '-');
            x.pressure(161);
            Check.same("too high", x.bars(0), 'p');
        });
        Sentence.of(11, "Returns the lower bound of the pressure", () -> {
            Boringhead x = new Boringhead();
            x.ground(7, 7, 'b');
            x.depth(7, 7, 33);
            x.water(7, 7, 9);
            Check.same("90 and 3 times 33", x.lower(7), 189);
        });
        Sentence.of(12, "Returns the upper bound of the pressure", () -> {
            Boringhead x = new Boringhead();
            x.ground(7, 7, 'b');
            x.depth(7, 7, 33);
            x.water(7, 7, 9);
            Check.same("90 and 7 times 33", x.upper(7), 321);
        });
        Sentence.of("a ring makes each more worn", () -> {
            Boringhead x = new Boringhead();
            x.ground(1, 1, 's');
            Scenes.clay(x, 2);
            for (int cutter = 0; cutter < 8; cutter++) {
                Check.same("cutter " + cutter, x.worn(cutter), cutter < 2 ? 10 : 5);
            }
        });
        Sentence.of(14, "Returns how worn a cutter is", () -> {
            Boringhead x = Edge.made(Scenes::threeRings);
            Check.same("cutter 1", x.worn(1), 6);
            Check.same("cutter 2", x.worn(2), 3);
        });
        Sentence.of(15, "Changes a cutter", () -> {
            Boringhead x = Edge.made(Scenes::boulders);
            x.change(1);
            Check.same("the changed one", x.worn(1), 0);
            Check.same("another one", x.worn(0), 120);
            Check.same("the clock", x.now(), 230);
            x.change(0);
            x.advance(1);
            Check.same("worn from then on", x.worn(1), 40);
        });
        Sentence.of(16, "Tells how the jacks push", () -> {
            Boringhead x = new Boringhead();
            x.steer(2, -1);
            Check.same("not at once", x.heading(false), 0);
            Scenes.clay(x, 2);
            Check.same("to the right", x.heading(false), 4);
            Check.same("up", x.heading(true), -2);
        });
    }

    private static void driving() {
        Sentence.of("With a ring the heading becomes more by that", () -> {
            Boringhead x = new Boringhead();
            x.pressure(100);
            x.deliver(2);
            x.advance(1);
            x.advance(2);
            Check.same("to the right", x.heading(false), 17);
            Check.same("up", x.heading(true), 7);
        });
        Sentence.of(17, "Returns what bars the next ring", () -> {
            Boringhead x = new Boringhead();
            Check.same("at first", x.bars(3), 'p');
            x.pressure(100);
            Check.same("under pressure", x.bars(3), 's');
            x.deliver(2);
            Check.same("with segments", x.bars(3), '-');
            x.advance(3);
            Check.same("the same rotation", x.bars(3), 'j');
            Check.same("another one", x.bars(4), '-');
        });
        Sentence.of(18, "Drives on, and builds the next ring", () -> {
            Boringhead x = new Boringhead();
            x.ground(1, 1, 'b');
            Scenes.clay(x, 1);
            x.advance(3);
            Check.same("rings", x.rings(), 2);
            Check.same("rotation", x.rotation(1), 3);
            Check.same("the clock", x.now(), 100);
            Check.same("muck", x.muck(), 135);
            Check.same("worn", x.worn(7), 21);
            Check.same("segments", x.deliver(2), 40);
            Check.same("heading", x.heading(true), 3);
            Check.same("its place off the line", x.off(1, true), 13);
            Check.same("what is lost", x.lost(1), 140);
            Check.same("events", x.events(), 1);
        });
    }

    // ---- promises 19 to 25

    private static void line() {
        Sentence.of(19, "Returns how many rings there are", () -> {
            for (int rings = 0; rings <= 30; rings++) {
                int many = rings;
                Check.same("rings", Edge.made(x -> Scenes.clay(x, many)).rings(), rings);
            }
        });
        Sentence.of(20, "Returns how far off the line the shield was with a ring, with its sign", () -> {
            Boringhead x = new Boringhead();
            turned(x, 5, 3, 6);
            int[] right = {-7, -7, -17};
            int[] up = {-7, -21, -35};
            for (int ring = 0; ring < 3; ring++) {
                Check.same("right with " + ring, x.off(ring, false), right[ring]);
                Check.same("up with " + ring, x.off(ring, true), up[ring]);
            }
        });
        Sentence.of(21, "Returns the heading off the line", () -> {
            Boringhead x = new Boringhead();
            turned(x, 5, 3, 6);
            Check.same("right", x.heading(false), -10);
            Check.same("up", x.heading(true), -14);
        });
        Sentence.of(22, "Returns the rotation of a ring", () -> {
            Boringhead x = new Boringhead();
            turned(x, 5, 3, 6);
            Check.same("of the first", x.rotation(0), 5);
            Check.same("of the second", x.rotation(1), 3);
            Check.same("of the last", x.rotation(2), 6);
        });
    }

    private static void turned(Boringhead x, int... rotations) {
        x.pressure(100);
        x.deliver(rotations.length);
        for (int rotation : rotations) {
            x.advance(rotation);
        }
    }

    private static void plans() {
        Sentence.of(23, "Returns the first rotation of a plan", () -> {
            Boringhead x = new Boringhead();
            turned(x, 0);
            Check.same("back down", x.plan(1), 4);
            turned(x, 4);
            Check.same("down is barred", x.plan(1), 3);
        });
        Sentence.of(24, "Returns the sum of squares of a plan", () -> {
            Boringhead x = new Boringhead();
            turned(x, 0);
            // Down with 4: the place stays 10 up.
            Check.same("of one ring", x.squares(1), 100);
            turned(x, 4);
            // 3 is 7 to the right and 7 down of 10 up.
            Check.same("of one ring then", x.squares(1), 58);
        });
        Sentence.of(25, "Returns how many rings are off", () -> {
            Boringhead x = new Boringhead();
            x.bend(0, 5, 20, 0);
            // To the right by -20, -60, -120.
            turned(x, 0, 4, 0);
            Check.same("two of three", x.offRings(), 2);
        });
    }

    // ---- promises 26 to 34

    private static void grout() {
        Sentence.of(26, "Puts grout behind a ring", () -> {
            Boringhead x = Edge.made(Scenes::threeRings);
            x.grout(1, 50);
            x.grout(1, 30);
            Check.same("lost there", x.lost(1), 40);
            Check.same("lost ahead of it", x.lost(0), 120);
            Check.same("lost behind it", x.lost(2), 120);
            Check.same("the clock", x.now(), 90);
        });
        Sentence.of(27, "Returns what is lost at a ring", () -> {
            Boringhead x = new Boringhead();
            x.ground(1, 1, 's');
            Scenes.clay(x, 2);
            Check.same("in clay", x.lost(0), 120);
            Check.same("in sand", x.lost(1), 150);
            x.grout(1, 149);
            Check.same("nearly none", x.lost(1), 1);
        });
    }

    private static void settlements() {
        Sentence.of(28, "Adds a house", () -> {
            Boringhead x = Edge.made(Scenes::threeRings);
            x.house(0, 0, 0);
            x.house(190, 199, 60);
            // 12 by the ring at its place; 120 * 400 / (10 * 401) = 11; 120 * 400 / (10 * 404) = 11.
            Check.same("above the rings", x.settles(0, false), 34);
            Check.same("far from them", x.settles(1, true), 0);
        });
        Sentence.of(29, "Returns how much a house settles at an end", () -> {
            Boringhead x = Edge.made(Scenes::threeRings);
            x.house(0, 20, 20);
            // 48000 divided by 8000, 8010 and 8040; by 12000, 11610 and 11240.
            Check.same("at its first place", x.settles(0, false), 16);
            Check.same("at its last one", x.settles(0, true), 12);
        });
        Sentence.of(30, "Returns the tilt of a house", () -> {
            Boringhead x = Edge.made(Scenes::threeRings);
            x.house(0, 20, 20);
            Check.same("by both ends", x.tilt(0), 4);
            x.lift(0, false, 9);
            Check.same("the other way", x.tilt(0), 5);
        });
        Sentence.of(31, "Returns the class of a house", () -> {
            Boringhead x = Edge.made(Scenes::threeRings);
            x.house(0, 0, 0);
            Check.same("level", x.damage(0), 0);
            x.lift(0, true, 10);
            Check.same("by 10", x.damage(0), 1);
            x.lift(0, true, 20);
            Check.same("by 30", x.damage(0), 2);
            x.lift(0, false, 30);
            Check.same("level again", x.damage(0), 0);
        });
        Sentence.of(34, "Lifts an end of a house", () -> {
            Boringhead x = Edge.made(Scenes::threeRings);
            x.house(0, 0, 0);
            x.lift(0, true, 10);
            Check.same("the lifted end", x.settles(0, true), 24);
            Check.same("the other one", x.settles(0, false), 34);
            Check.same("the clock", x.now(), 105);
        });
    }

    private static void readings() {
        Sentence.of(32, "Takes a reading of a house", () -> {
            Boringhead x = Edge.made(Scenes::threeRings);
            x.house(0, 0, 0);
            x.house(0, 0, 0);
            x.read(0);
            Check.same("of the one", x.alarm(0), 'y');
            Check.same("of no other", x.alarm(1), '-');
            Check.same("the clock", x.now(), 90);
        });
        Sentence.of(33, "Returns the alarm of a house", () -> {
            Boringhead x = Edge.made(Scenes::threeRings);
            x.house(0, 0, 0);
            x.house(9, 9, 60);
            x.read(0);
            x.read(1);
            Check.same("at 34", x.alarm(0), 'y');
            Check.same("at 3", x.alarm(1), 'g');
        });
    }

    // ---- promises 35 to 41

    private static void stuff() {
        Sentence.of(35, "Brings segments", () -> {
            Boringhead x = new Boringhead();
            x.pressure(100);
            x.deliver(2);
            x.advance(0);
            x.advance(1);
            Check.same("both are built", x.bars(0), 's');
            x.deliver(1);
            Check.same("one more", x.bars(0), '-');
            Check.same("the clock", x.now(), 60);
        });
        Sentence.of(36, "Returns how much muck is in the pit", () -> {
            Boringhead x = Edge.made(Scenes::threeRings);
            Check.same("of three rings in clay", x.muck(), 195);
            Scenes.waitUntil(x, 360);
            x.lorries(4);
            Check.same("less that of four lorries", x.muck(), 115);
        });
        Sentence.of(37, "Lets lorries go", () -> {
            Boringhead x = Edge.made(Scenes::threeRings);
            Scenes.waitUntil(x, 700);
            x.lorries(3);
            Check.same("muck", x.muck(), 135);
            Check.same("the clock", x.now(), 715);
        });
    }

    private static void time() {
        Sentence.of(38, "Returns the clock", () -> {
            Boringhead x = Edge.made(Scenes::threeRings);
            Check.same("behind three rings", x.now(), 90);
            x.change(0);
            Check.same("behind a change", x.now(), 110);
        });
        Sentence.of(39, "Waits", () -> {
            Boringhead x = Edge.made(Scenes::threeRings);
            x.pause(33, 'm', '-');
            Check.same("the clock", x.now(), 123);
            Check.same("the builder's", x.waited('b'), 33);
        });
        Sentence.of(40, "Puts a cause first in the contract", () -> {
            Boringhead x = new Boringhead();
            x.pause(1, 'p', 'h');
            x.first('h');
            x.pause(2, 'p', 'h');
            Check.same("the builder's", x.waited('b'), 1);
            Check.same("the client's", x.waited('k'), 2);
        });
        Sentence.of(41, "Returns how long waits were, by whose they are", () -> {
            Boringhead x = new Boringhead();
            int minutes = 1;
            for (char cause : "gpcsmwh".toCharArray()) {
                x.pause(minutes, cause, '-');
                minutes *= 2;
            }
            Check.same("p, c, s, m", x.waited('b'), 2 + 4 + 8 + 16);
            Check.same("g, h", x.waited('k'), 1 + 64);
            Check.same("w", x.waited('n'), 32);
        });
    }

    // ---- promises 42 to 49

    private static void contract() {
        Sentence.of(42, "Returns how many rings are events", () -> {
            Boringhead x = new Boringhead();
            x.ground(1, 1, 's');
            x.reference(2, 2, 'r');
            Scenes.clay(x, 3);
            Check.same("sand for clay, not clay for rock", x.events(), 1);
        });
        Sentence.of(43, "Gives a notice of an event", () -> {
            Boringhead x = Edge.made(Scenes::boulders);
            x.notice(1);
            Check.same("claimed", x.claimed(), 40);
            Check.same("events still", x.events(), 3);
        });
        Sentence.of(44, "Returns the minutes of events with a notice in time", () -> {
            Boringhead x = Edge.made(Scenes::boulders);
            Check.same("without any", x.claimed(), 0);
            x.notice(2);
            x.notice(0);
            Check.same("with two", x.claimed(), 80);
            Scenes.waitUntil(x, 140 + 4321);
            x.notice(1);
            Check.same("with a late one", x.claimed(), 80);
        });
        Sentence.of(45, "Returns at how many rings there was a kind of ground", () -> {
            Boringhead x = new Boringhead();
            x.ground(1, 2, 's');
            x.ground(3, 3, 'r');
            x.ground(4, 199, 'b');
            Scenes.clay(x, 4);
            Check.same("clay", x.count('c'), 1);
            Check.same("sand", x.count('s'), 2);
            Check.same("rock", x.count('r'), 1);
            Check.same("boulders, all of them ahead", x.count('b'), 0);
        });
    }

    private static void sums() {
        Sentence.of(46, "Returns the share of all gaps that is filled", () -> {
            Boringhead x = Edge.made(Scenes::threeRings);
            Check.same("none", x.groutShare(), 0);
            x.grout(0, 90);
            Check.same("a quarter", x.groutShare(), 0.25);
            x.grout(2, 90);
            Check.same("a half", x.groutShare(), 0.5);
        });
        Sentence.of(47, "Returns the mean minutes of a ring", () -> {
            Boringhead x = new Boringhead();
            x.ground(1, 1, 's');
            Scenes.clay(x, 2);
            x.pause(100, 'w', '-');
            Check.same("of 30 and 40", x.meanMinutes(), 35);
        });
        Sentence.of(49, "Returns whether all is sound", () -> {
            Check.same("without a ring", new Boringhead().isSound(), true);
            Check.same("with three", Edge.made(Scenes::boulders).isSound(), true);
            Check.same("with all", Edge.made(Scenes::whole).isSound(), true);
        });
    }
}
