import java.util.function.Consumer;

/** The boundaries of "The shield", but for the line and the plan, and of the promises 10 to 18. */
final class EdgesOfShield {
    private static final String KINDS = "csrb";

    private EdgesOfShield() {
    }

    static void all() {
        pressures();
        cutters();
        bars();
        reckoned();
        promises10to13();
        promises14to16();
        promises17and18();
    }

    // ---- the pressure

    private static void pressures() {
        Sentence.of("The pressure is 0 to 2000, 0 at first", () -> {
            Boringhead x = new Boringhead();
            Check.same("at first", x.pressure(2000), 0);
            Check.same("the most", x.pressure(0), 2000);
            Check.same("the least", x.pressure(0), 0);
        });
        Sentence.of("its lower bound is 10 times the water and the earth times the depth", () -> {
            bounds(true, 10, 0, 20, 40, 0, 30);
            bounds(true, 60, 0, 120, 240, 0, 180);
            bounds(true, 10, 40, 420, 440, 400, 430);
            bounds(true, 60, 40, 520, 640, 400, 580);
        });
        Sentence.of("its upper one 10 times the water and the strength times the depth", () -> {
            bounds(false, 10, 0, 80, 50, 200, 70);
            bounds(false, 60, 0, 480, 300, 1200, 420);
            bounds(false, 10, 40, 480, 450, 600, 470);
            bounds(false, 60, 40, 880, 700, 1600, 820);
        });
    }

    private static void bounds(boolean isLower, int depth, int water, int... due) {
        for (int i = 0; i < 4; i++) {
            Boringhead x = new Boringhead();
            x.ground(199, 199, KINDS.charAt(i));
            x.depth(199, 199, depth);
            x.water(199, 199, water);
            Check.same("in " + KINDS.charAt(i), isLower ? x.lower(199) : x.upper(199), due[i]);
        }
    }

    // ---- cutters

    private static void cutters() {
        Sentence.of("There are the cutters 0 to 7", () -> {
            Edge.inside(Scenes::threeRings, 0, 7, Boringhead::worn);
            Edge.inside(Scenes::threeRings, 0, 7, Boringhead::change);
            Edge.outside(Edge.INDEX, Scenes::threeRings, 0, 7, Boringhead::worn);
        });
        Sentence.of("more worn by the wear of the ground, 0 and 1 by twice as much", () -> worn(false, 1, 4, 12, 20));
        Sentence.of("with foam, by half of it, cut, in sand and boulders, doubled behind that", () -> worn(true, 1, 2, 12, 10));
        Sentence.of("One with 100 or more is worn out", EdgesOfShield::wornOut);
        Sentence.of("To change a cutter takes 20 minutes", () -> change(0, 20));
        Sentence.of("by the water of the next place", EdgesOfShield::waterOfNextPlace);
        Sentence.of("none more up to 10", () -> {
            change(9, 20);
            change(10, 20);
            change(11, 50);
        });
        Sentence.of("30 up to 20", () -> {
            change(19, 50);
            change(20, 50);
            change(21, 80);
        });
        Sentence.of("60 up to 30", () -> {
            change(29, 80);
            change(30, 80);
            change(31, 140);
        });
        Sentence.of("otherwise 120", () -> {
            change(31, 140);
            change(40, 140);
        });
    }

    private static void worn(boolean isFoamed, int... due) {
        for (int i = 0; i < 4; i++) {
            Boringhead x = new Boringhead();
            x.ground(0, 1, KINDS.charAt(i));
            x.foam(isFoamed);
            Scenes.clay(x, 1);
            for (int cutter = 0; cutter < 8; cutter++) {
                Check.same("cutter " + cutter + " in " + KINDS.charAt(i), x.worn(cutter), cutter < 2 ? 2 * due[i] : due[i]);
            }
            x.advance(4);
            Check.same("cutter 1 by two rings", x.worn(1), 4 * due[i]);
            Check.same("cutter 2 by two rings", x.worn(2), 2 * due[i]);
        }
    }

    /** Cutters 2 to 7 worn by 96 in rock and by one each in so many rings of clay, 0 and 1 changed in time. */
    private static void rockAndClay(Boringhead x, int clay) {
        x.ground(0, 7, 'r');
        x.pressure(100);
        x.deliver(40);
        for (int i = 0; i < 8 + clay; i++) {
            if (i == 4 || i == 8) {
                x.change(0);
                x.change(1);
            }
            x.advance(i % 2 == 0 ? 0 : 4);
        }
        Check.same("worn by rock and clay", x.worn(7), 96 + clay);
    }

    private static void wornOut() {
        Check.same("worn by 98", barWith(49), '-');
        Check.same("worn by 100", barWith(50), 'c');
        Check.same("worn by 99", Edge.made(x -> rockAndClay(x, 3)).bars(1), '-');
        Check.same("worn by 100, 2 to 7", Edge.made(x -> rockAndClay(x, 4)).bars(1), 'c');
        Check.same("worn by 120", Edge.made(Scenes::boulders).bars(1), 'c');
        for (int last = 2; last < 8; last++) {
            Boringhead x = Edge.made(y -> rockAndClay(y, 4));
            for (int cutter = 2; cutter < 8; cutter++) {
                if (cutter != last) {
                    x.change(cutter);
                }
            }
            Check.same("bar by cutter " + last + " alone", x.bars(1), 'c');
            x.change(last);
            Check.same("no bar then", x.bars(1), '-');
        }
        for (int last = 0; last < 2; last++) {
            Boringhead x = Edge.made(Scenes::boulders);
            x.change(1 - last);
            Check.same("bar by cutter " + last + " alone", x.bars(1), 'c');
            x.change(last);
            Check.same("no bar then", x.bars(1), '-');
        }
    }

    /** The bar with the rotation 1 behind so many rings of clay, with segments. */
    private static char barWith(int rings) {
        Boringhead x = Edge.made(y -> Scenes.driven(y, rings, 0, 4));
        return x.bars(1);
    }

    private static void change(int water, int due) {
        Boringhead x = Edge.made(Scenes::threeRings);
        x.water(3, 3, water);
        Check.same("by water " + water, x.change(4), due);
        Check.same("the clock", x.now(), 90 + due);
        Check.same("worn", x.worn(4), 0);
    }

    private static void waterOfNextPlace() {
        Boringhead x = new Boringhead();
        x.water(0, 2, 6);
        Scenes.clay(x, 3);
        x.water(4, 199, 40);
        Check.same("neither ahead of it nor behind it", x.change(0), 20);
        x.water(3, 3, 21);
        x.water(4, 4, 0);
        Check.same("at it", x.change(1), 80);
        Boringhead whole = Edge.made(Scenes::whole);
        whole.water(120, 120, 31);
        Check.same("behind 120 rings", whole.change(0), 140);
    }

    // ---- what bars the next ring

    private static void bars() {
        Sentence.of("The next ring is barred by the first of these", EdgesOfShield::order);
        Sentence.of("'e' there are 120", EdgesOfShield::barE);
        Sentence.of("'p' the pressure is out of its bounds there", EdgesOfShield::barP);
        Sentence.of("'c' a cutter is worn out", () -> {
            Check.same("worn by 100", Edge.made(x -> rockAndClay(x, 4)).bars(1), 'c');
            Check.same("worn by 99", Edge.made(x -> rockAndClay(x, 3)).bars(1), '-');
        });
        Sentence.of("'s' there are no segments", EdgesOfShield::barS);
        Sentence.of("'m' the pit has less room than its muck", EdgesOfShield::barM);
        Sentence.of("'j' the ring ahead has the same rotation", EdgesOfShield::barJ);
        Sentence.of("'a' a house that is at most 10 places away", EdgesOfShield::barA);
        Sentence.of("its nearest place", EdgesOfShield::nearest);
        Sentence.of("has a red alarm", EdgesOfShield::redAlarm);
    }

    /** Each set of bars that stand together: the first one of them shows. */
    private static void order() {
        String bars = "epcsmja";
        for (int set = 0; set < 128; set++) {
            boolean isEnd = (set & 1) == 1;
            Boringhead x = new Boringhead();
            thirty(x, isEnd ? 90 : 0);
            standing(x, set);
            char due = set == 0 ? '-' : bars.charAt(Integer.numberOfTrailingZeros(set));
            Check.same("of the set " + set, x.bars((set >> 5 & 1) == 1 ? 4 : 1), due);
        }
    }

    /** Thirty rings more than so many, the last of them in boulders, after which all bars may stand. */
    private static void thirty(Boringhead x, int ahead) {
        x.ground(ahead + 28, ahead + 29, 'b');
        x.house(ahead + 9, ahead + 29, 0);
        Scenes.driven(x, ahead, 0, 4);
        x.pressure(100);
        if (ahead == 0) {
            x.deliver(30);
        } else {
            Scenes.emptyPit(x);
        }
        for (int i = 0; i < 30; i++) {
            changeWorn(x, 100);
            x.advance(i % 2 == 0 ? 0 : 4);
        }
        Check.same("a cutter is worn out", x.worn(0) >= 100, true);
        Check.same("the pit is too full", x.muck() > 2000 - 65, true);
        Scenes.waitUntil(x, 1440 * (x.now() / 1440 + 1) + 360);
    }

    /** Lets those bars stand whose bits are in the set, and no other. */
    private static void standing(Boringhead x, int set) {
        x.pressure((set >> 1 & 1) == 1 ? 39 : 100);
        if ((set >> 2 & 1) == 0) {
            changeWorn(x, 100);
        }
        if ((set >> 3 & 1) == 0) {
            x.deliver(1);
        }
        if ((set >> 4 & 1) == 0) {
            x.lorries(100);
        }
        if ((set >> 6 & 1) == 1) {
            x.read(0);
        }
    }

    private static void barE() {
        Boringhead x = Edge.made(y -> Scenes.driven(y, 119, 0, 4));
        Check.same("with 119", x.bars(4), '-');
        x.advance(4);
        for (int rotation = 0; rotation < 8; rotation++) {
            Check.same("with 120, ahead of s and j", x.bars(rotation), 'e');
        }
        x.pressure(0);
        Check.same("ahead of p", x.bars(4), 'e');
        x.pressure(100);
        x.deliver(40);
        Check.same("with nothing else", x.bars(0), 'e');
    }

    private static void barP() {
        int[][] bounds = {{40, 160}, {80, 100}, {0, 400}, {60, 140}};
        for (int i = 0; i < 4; i++) {
            Boringhead x = new Boringhead();
            x.ground(0, 0, KINDS.charAt(i));
            x.deliver(1);
            pressed(x, bounds[i][0] - 1, 'p');
            pressed(x, bounds[i][0], '-');
            pressed(x, bounds[i][1], '-');
            pressed(x, bounds[i][1] + 1, 'p');
            pressed(x, 2000, 'p');
            x.water(0, 0, 40);
            pressed(x, bounds[i][0] + 399, 'p');
            pressed(x, bounds[i][0] + 400, '-');
            pressed(x, bounds[i][1] + 400, '-');
            pressed(x, bounds[i][1] + 401, 'p');
        }
        Boringhead there = new Boringhead();
        there.ground(1, 1, 's');
        there.ground(2, 2, 'r');
        there.pressure(101);
        there.deliver(3);
        Check.same("by its place, not the next one's", there.bars(0), '-');
        there.advance(0);
        Check.same("by the next place, not the ring's", there.bars(4), 'p');
    }

    private static void pressed(Boringhead x, int pressure, char due) {
        if (pressure < 0) {
            return;
        }
        x.pressure(pressure);
        Check.same("by " + pressure, x.bars(0), due);
    }

    private static void barS() {
        Boringhead x = new Boringhead();
        x.pressure(100);
        Check.same("none at first", x.bars(0), 's');
        x.deliver(1);
        Check.same("one", x.bars(0), '-');
        x.advance(0);
        Check.same("none then", x.bars(1), 's');
        x.deliver(2);
        x.advance(1);
        Check.same("one of two", x.bars(0), '-');
        x.advance(0);
        Check.same("none of two", x.bars(1), 's');
    }

    /** So many rings of clay, the last ones of them with foam. */
    static void mucky(Boringhead x, int plain, int foamed) {
        x.pressure(100);
        x.deliver(40);
        for (int i = 0; i < plain + foamed; i++) {
            x.foam(i >= plain);
            x.advance(i % 2 == 0 ? 0 : 4);
        }
    }

    private static void barM() {
        Boringhead x = Edge.made(y -> mucky(y, 20, 9));
        Check.same("muck", x.muck(), 1930);
        Check.same("room of 70 for 70", x.bars(1), '-');
        x.ground(29, 29, 'b');
        Check.same("room of 70 for 75", x.bars(1), 'm');
        x.foam(false);
        Check.same("room of 70 for 70 of boulders", x.bars(1), '-');
        x.ground(29, 29, 'r');
        Check.same("room of 70 for 80", x.bars(1), 'm');
        x.ground(29, 29, 'c');
        x.foam(true);
        x.advance(1);
        Check.same("full", x.muck(), 2000);
        Check.same("room of 0", x.bars(0), 'm');
        Scenes.waitUntil(x, 1800);
        x.lorries(3);
        Check.same("room of 60 for 70", x.bars(0), 'm');
        x.foam(false);
        Check.same("room of 60 for 65", x.bars(0), 'm');
        x.ground(30, 30, 's');
        Check.same("room of 60 for 60", x.bars(0), '-');
    }

    private static void barJ() {
        Boringhead x = new Boringhead();
        x.pressure(100);
        x.deliver(40);
        for (int rotation = 0; rotation < 8; rotation++) {
            Check.same("none without a ring ahead", x.bars(rotation), '-');
        }
        for (int ahead = 7; ahead >= 0; ahead--) {
            x.advance(ahead);
            for (int rotation = 0; rotation < 8; rotation++) {
                Check.same(rotation + " behind " + ahead, x.bars(rotation), rotation == ahead ? 'j' : '-');
            }
        }
    }

    /** Fifteen rings, those at the first places in sand, and a house that was read. */
    private static Boringhead beside(int from, int to) {
        Boringhead x = new Boringhead();
        x.ground(0, 5, 's');
        x.house(from, to, 0);
        Scenes.clay(x, 15);
        x.read(0);
        Check.same("alarm " + from + " to " + to, x.alarm(0), 'r');
        return x;
    }

    private static void barA() {
        Check.same("11 ahead", beside(4, 4).bars(1), '-');
        Check.same("10 ahead", beside(5, 5).bars(1), 'a');
        Check.same("at the next place", beside(15, 15).bars(1), 'a');
        Check.same("above it", beside(0, 199).bars(1), 'a');
        Boringhead x = Edge.made(y -> redFarAhead(y, 25));
        Check.same("10 behind", x.bars(1), 'a');
        Boringhead y = Edge.made(z -> redFarAhead(z, 26));
        Check.same("11 behind", y.bars(1), '-');
    }

    /** Fifteen rings so deep that a house that begins so far behind the last one settles by more than 50. */
    private static void redFarAhead(Boringhead x, int from) {
        x.ground(0, 199, 'b');
        x.depth(0, 199, 60);
        x.house(from, 199, 0);
        x.pressure(300);
        x.deliver(40);
        for (int i = 0; i < 15; i++) {
            changeWorn(x, 60);
            x.advance(i % 2 == 0 ? 0 : 4);
        }
        changeWorn(x, 60);
        x.read(0);
        Check.same("alarm from " + from, x.alarm(0), 'r');
    }

    private static void changeWorn(Boringhead x, int least) {
        for (int i = 0; i < 8; i++) {
            if (x.worn(i) >= least) {
                x.change(i);
            }
        }
    }

    private static void nearest() {
        Check.same("its last place 10 ahead", beside(0, 5).bars(1), 'a');
        Check.same("its last place 11 ahead", beside(0, 4).bars(1), '-');
        Check.same("its first place 10 behind", beside(15, 199).bars(1), 'a');
        Check.same("its first place ahead, its last behind", beside(3, 150).bars(1), 'a');
    }

    private static void redAlarm() {
        Boringhead x = new Boringhead();
        x.ground(0, 5, 's');
        x.house(5, 5, 0);
        Scenes.clay(x, 15);
        Check.same("without a reading", x.bars(1), '-');
        int more = x.settles(0, false) - 49;
        lift(x, more);
        Check.same("reading", x.read(0), 49);
        Check.same("by 49", x.bars(1), '-');
        Boringhead y = beside(5, 5);
        lift(y, more - 1);
        Check.same("by the last reading still", y.bars(1), 'a');
        Check.same("reading", y.read(0), 50);
        Check.same("by 50", y.bars(1), 'a');
        lift(y, 1);
        Check.same("reading", y.read(0), 49);
        Check.same("by 49 then", y.bars(1), '-');
    }

    private static void lift(Boringhead x, int by) {
        for (int left = by; left > 0; left -= 50) {
            x.lift(0, false, Math.min(50, left));
            x.lift(0, true, Math.min(50, left));
        }
    }

    // ---- what a ring gives and takes

    private static void reckoned() {
        Sentence.of("Its muck is 50 times the bulk of the ground, 10 more with foam, divided by 100, cut", () -> {
            muck(false, 65, 60, 80, 70);
            muck(true, 70, 65, 85, 75);
        });
        Sentence.of("It takes the minutes of the ground, less a tenth, cut, of the rings there are, 10 at most", EdgesOfShield::tenths);
    }

    private static void muck(boolean isFoamed, int... due) {
        for (int i = 0; i < 4; i++) {
            Boringhead x = new Boringhead();
            x.ground(0, 0, KINDS.charAt(i));
            x.foam(isFoamed);
            Scenes.clay(x, 1);
            Check.same("in " + KINDS.charAt(i), x.muck(), due[i]);
        }
    }

    private static void tenths() {
        int[] rings = {0, 1, 9, 10, 11, 19, 20, 29, 30, 49, 50, 99, 100, 101, 109, 110, 111, 119};
        int[] less = {0, 0, 0, 1, 1, 1, 2, 2, 3, 4, 5, 9, 10, 10, 10, 10, 10, 10};
        for (int i = 0; i < rings.length; i++) {
            int there = rings[i];
            Boringhead x = Edge.made(y -> readyFor(y, there));
            Check.same("with " + there + " in clay", x.advance(1), 30 - less[i]);
            Boringhead z = Edge.made(y -> readyFor(y, there));
            z.ground(there, there, 'r');
            Check.same("with " + there + " in rock", z.advance(1), 90 - less[i]);
        }
    }

    private static void readyFor(Boringhead x, int rings) {
        Scenes.driven(x, rings, 0, 4);
        if (rings % 40 == 0) {
            x.deliver(1);
        }
        if (rings > 0 && rings % 30 == 0) {
            Scenes.emptyPit(x);
        }
        changeWorn(x, 100);
    }

    // ---- promises

    private static void promises10to13() {
        Sentence.of(10, "- `pressure`: 0 to 2000", () -> Edge.inside(Scenes::fresh, 0, 2000, Boringhead::pressure));
        Sentence.of(10, "Returns the one before", () -> {
            Boringhead x = new Boringhead();
            int before = 0;
            for (int pressure : new int[] {2000, 0, 1, 1999, 1000, 1000}) {
                Check.same("ahead of " + pressure, x.pressure(pressure), before);
                before = pressure;
            }
        });
        Sentence.of(10, "if it is out of range", () -> {
            Edge.outside(Edge.ARGUMENT, Scenes::threeRings, 0, 2000, Boringhead::pressure);
            Edge.outside(Edge.ARGUMENT, x -> x.pressure(2000), 0, 2000, Boringhead::pressure);
        });
        for (int promise = 11; promise <= 12; promise++) {
            boolean isLower = promise == 11;
            Edge.Numbered bound = (x, place) -> check(x, place, isLower);
            Sentence.of(promise, "- `place`: the place", () -> Edge.inside(Scenes::whole, 0, 199, bound));
            Sentence.of(promise, "Returns the bound", () -> {
                Boringhead x = new Boringhead();
                Check.same("the bound at 0", isLower ? x.lower(0) : x.upper(0), isLower ? 40 : 160);
                x.ground(199, 199, 'r');
                Check.same("the bound at 199", isLower ? x.lower(199) : x.upper(199), isLower ? 0 : 400);
            });
            Sentence.of(promise, "if it is out of range", () -> Edge.outside(Edge.ARGUMENT, Scenes::threeRings, 0, 199, bound));
        }
        Sentence.of(13, "- `is`: whether so", () -> {
            Boringhead x = new Boringhead();
            x.foam(true);
            Scenes.clay(x, 1);
            Check.same("with it", x.muck(), 70);
            x.foam(false);
            x.advance(4);
            Check.same("without it", x.muck(), 135);
        });
        Sentence.of(13, "Tells whether there is foam, none at first", () -> {
            Check.same("at first", new Boringhead().foam(false), false);
            Check.same("muck at first", Edge.made(x -> Scenes.clay(x, 1)).muck(), 65);
        });
        Sentence.of(13, "Returns whether there was", () -> {
            Boringhead x = new Boringhead();
            Check.same("at first", x.foam(true), false);
            Check.same("then", x.foam(true), true);
            Check.same("again", x.foam(false), true);
            Check.same("none", x.foam(false), false);
        });
    }

    private static void check(Boringhead x, int place, boolean isLower) {
        Check.same("at " + place, isLower ? x.lower(place) : x.upper(place), isLower ? 40 : 160);
    }

    private static void promises14to16() {
        Sentence.of(14, "- `cutter`: 0 to 7", () -> Edge.inside(Scenes::fresh, 0, 7, (x, cutter) -> {
            Check.same("at first", x.worn(cutter), 0);
            Scenes.clay(x, 3);
            Check.same("then", x.worn(cutter), cutter < 2 ? 6 : 3);
        }));
        Sentence.of(14, "Returns how much", () -> {
            Boringhead x = Edge.made(Scenes::boulders);
            Check.same("worn out", x.worn(0), 120);
            Check.same("not yet", x.worn(2), 60);
        });
        Sentence.of(14, "if there is no such cutter", () -> Edge.outside(Edge.INDEX, Scenes::threeRings, 0, 7, Boringhead::worn));
        Sentence.of(15, "- `cutter`: 0 to 7", () -> Edge.inside(Scenes::threeRings, 0, 7, (x, cutter) -> {
            x.change(cutter);
            for (int i = 0; i < 8; i++) {
                Check.same("cutter " + i + " then", x.worn(i), i == cutter ? 0 : i < 2 ? 6 : 3);
            }
        }));
        Sentence.of(15, "Returns how many minutes it takes", () -> {
            int[] due = new int[41];
            for (int water = 0; water <= 40; water++) {
                due[water] = water <= 10 ? 20 : water <= 20 ? 50 : water <= 30 ? 80 : 140;
                change(water, due[water]);
            }
        });
        Sentence.of(15, "if there is no such cutter", () -> {
            Edge.outside(Edge.INDEX, Scenes::threeRings, 0, 7, Boringhead::change);
            Edge.outside(Edge.INDEX, Scenes::fresh, 0, 7, Boringhead::change);
            Edge.outside(Edge.INDEX, x -> threeAt(x, 99999), 0, 7, Boringhead::change);
        });
        Sentence.of(15, "if it is not worn at all", EdgesOfShield::notWorn);
        Sentence.of(15, "if the clock would go beyond its end", EdgesOfShield::changeAtTheEnd);
        Sentence.of(16, "- `right`: -5 to 5", () -> {
            Edge.inside(Scenes::threeRings, -5, 5, (x, right) -> x.steer(right, 0));
            Edge.inside(Scenes::threeRings, -5, 5, (x, right) -> x.steer(right, 5));
        });
        Sentence.of(16, "- `up`: -5 to 5", () -> {
            Edge.inside(Scenes::threeRings, -5, 5, (x, up) -> x.steer(0, up));
            Edge.inside(Scenes::threeRings, -5, 5, (x, up) -> x.steer(-5, up));
        });
        Sentence.of(16, "10 times the one to the right before, plus the one up before", EdgesOfShield::steered);
        Sentence.of(16, "if a number is out of range", () -> {
            Consumer<Boringhead> scene = x -> {
                Scenes.threeRings(x);
                x.steer(3, -2);
            };
            Edge.outside(Edge.ARGUMENT, scene, -5, 5, (x, right) -> x.steer(right, 0));
            Edge.outside(Edge.ARGUMENT, scene, -5, 5, (x, up) -> x.steer(0, up));
            Edge.outside(Edge.ARGUMENT, scene, -5, 5, (x, both) -> x.steer(both, both));
        });
    }

    private static void threeAt(Boringhead x, int minute) {
        Scenes.threeRings(x);
        Scenes.waitUntil(x, minute);
    }

    private static void notWorn() {
        Edge.refused("a new one", Edge.UNSUPPORTED, Scenes::fresh, x -> x.change(0));
        for (int i = 0; i < 8; i++) {
            int cutter = i;
            Edge.taken("worn by one ring", x -> Scenes.clay(x, 1), x -> x.change(cutter));
            Edge.refused("changed right ahead", Edge.UNSUPPORTED, x -> {
                Scenes.clay(x, 1);
                x.change(cutter);
            }, x -> x.change(cutter));
        }
        Edge.refused("not worn and at the clock's end", Edge.UNSUPPORTED, x -> Scenes.waitUntil(x, 99999), x -> x.change(0));
    }

    private static void changeAtTheEnd() {
        int[] waters = {0, 10, 20, 30, 40};
        int[] minutes = {20, 20, 50, 80, 140};
        for (int i = 0; i < waters.length; i++) {
            int water = waters[i];
            int last = 99999 - minutes[i];
            Boringhead x = Edge.made(y -> threeAt(y, last));
            x.water(3, 3, water);
            Check.same("minutes", x.change(0), minutes[i]);
            Check.same("the clock at its end", x.now(), 99999);
            Edge.refused("one minute later", Edge.STATE, y -> {
                threeAt(y, last + 1);
                y.water(3, 3, water);
            }, y -> y.change(0));
        }
        Edge.refused("at the end", Edge.STATE, y -> threeAt(y, 99999), y -> y.change(7));
    }

    private static void steered() {
        Boringhead x = new Boringhead();
        Check.same("at first", x.steer(5, 5), 0);
        Check.same("5 and 5", x.steer(-5, -5), 55);
        Check.same("-5 and -5", x.steer(5, -5), -55);
        Check.same("5 and -5", x.steer(-5, 5), 45);
        Check.same("-5 and 5", x.steer(0, -1), -45);
        Check.same("0 and -1", x.steer(-1, 0), -1);
        Check.same("-1 and 0", x.steer(0, 0), -10);
        Check.same("0 and 0", x.steer(0, 0), 0);
    }

    // ---- bars and advance

    private static void promises17and18() {
        Sentence.of(17, "- `rotation`: its rotation, 0 to 7", () -> Edge.inside(Scenes::fresh, 0, 7, Boringhead::bars));
        Sentence.of(17, "the letter, - for nothing", () -> {
            Check.same("p", new Boringhead().bars(0), 'p');
            Check.same("c", Edge.made(Scenes::boulders).bars(1), 'c');
            Check.same("s", Edge.made(x -> x.pressure(100)).bars(1), 's');
            Check.same("m", Edge.made(x -> Scenes.clay(x, 30)).bars(1), 'm');
            Check.same("j", Edge.made(Scenes::threeRings).bars(0), 'j');
            Check.same("a", beside(5, 5).bars(1), 'a');
            Check.same("e", Edge.made(Scenes::whole).bars(1), 'e');
            Check.same("nothing", Edge.made(Scenes::threeRings).bars(1), '-');
        });
        Sentence.of(17, "if it is out of range", () -> {
            Edge.outside(Edge.ARGUMENT, Scenes::fresh, 0, 7, Boringhead::bars);
            Edge.outside(Edge.ARGUMENT, Scenes::threeRings, 0, 7, Boringhead::bars);
            Edge.outside(Edge.ARGUMENT, Scenes::whole, 0, 7, Boringhead::bars);
        });
        Sentence.of(18, "- `rotation`: its rotation, 0 to 7", () -> Edge.inside(Scenes::fresh, 0, 7, (x, rotation) -> {
            x.pressure(100);
            x.deliver(1);
            x.advance(rotation);
            Check.same("rotation", x.rotation(0), rotation);
        }));
        Sentence.of(18, "Returns its minutes", () -> {
            Boringhead x = Edge.made(Scenes::threeRings);
            Check.same("in clay", x.advance(1), 30);
            Check.same("the clock", x.now(), 120);
            x.ground(4, 4, 'r');
            Check.same("in rock", x.advance(2), 90);
            Check.same("the clock then", x.now(), 210);
        });
        Sentence.of(18, "if it is out of range", () -> {
            Edge.outside(Edge.ARGUMENT, Scenes::fresh, 0, 7, Boringhead::advance);
            Edge.outside(Edge.ARGUMENT, Scenes::threeRings, 0, 7, Boringhead::advance);
            Edge.outside(Edge.ARGUMENT, Scenes::whole, 0, 7, Boringhead::advance);
            Edge.outside(Edge.ARGUMENT, x -> threeAt(x, 99999), 0, 7, Boringhead::advance);
        });
        Sentence.of(18, "if something bars it", EdgesOfShield::barred);
        Sentence.of(18, "if the clock would go beyond its end", EdgesOfShield::advanceAtTheEnd);
    }

    private static void barred() {
        Edge.refused("e", Edge.UNSUPPORTED, Scenes::whole, x -> x.advance(1));
        Edge.refused("p", Edge.UNSUPPORTED, Scenes::fresh, x -> x.advance(0));
        Edge.refused("c", Edge.UNSUPPORTED, Scenes::boulders, x -> x.advance(1));
        Edge.refused("s", Edge.UNSUPPORTED, x -> x.pressure(100), x -> x.advance(0));
        Edge.refused("m", Edge.UNSUPPORTED, x -> Scenes.clay(x, 30), x -> x.advance(1));
        Edge.refused("m with a full pit", Edge.UNSUPPORTED, x -> mucky(x, 20, 10), x -> x.advance(1));
        Edge.refused("j", Edge.UNSUPPORTED, Scenes::threeRings, x -> x.advance(0));
        Edge.refused("a", Edge.UNSUPPORTED, x -> {
            x.ground(0, 5, 's');
            x.house(5, 5, 0);
            Scenes.clay(x, 15);
            x.read(0);
        }, x -> x.advance(1));
        Edge.refused("barred at the clock's end", Edge.UNSUPPORTED, x -> threeAt(x, 99999), x -> x.advance(0));
    }

    private static void advanceAtTheEnd() {
        int[] minutes = {30, 40, 90, 70};
        for (int i = 0; i < 4; i++) {
            char kind = KINDS.charAt(i);
            int last = 99999 - minutes[i];
            Boringhead x = Edge.made(y -> threeAt(y, last));
            x.ground(3, 3, kind);
            x.advance(1);
            Check.same("the clock at its end in " + kind, x.now(), 99999);
            Edge.refused("one minute later in " + kind, Edge.STATE, y -> {
                threeAt(y, last + 1);
                y.ground(3, 3, kind);
            }, y -> y.advance(1));
        }
        Edge.refused("at the end", Edge.STATE, y -> threeAt(y, 99999), y -> y.advance(1));
        Edge.taken("less a tenth", x -> {
            Scenes.clay(x, 10);
            Scenes.waitUntil(x, 99970);
        }, x -> x.advance(1));
    }
}
