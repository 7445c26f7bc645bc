import java.util.List;
import java.util.function.Consumer;

/** The boundaries of "Grout, houses" and of the promises 26 to 34. */
final class EdgesOfHouses {
    private static final String KINDS = "csrb";
    private static final int[] GAPS = {120, 150, 110, 140};

    private EdgesOfHouses() {
    }

    static void all() {
        grouts();
        houses();
        settlements();
        readings();
        promises26and27();
        promise28();
        promises29to33();
        promise34();
    }

    // ---- grout

    private static Boringhead ringIn(char kind) {
        Boringhead x = new Boringhead();
        x.ground(0, 0, kind);
        Scenes.clay(x, 1);
        return x;
    }

    private static void grouts() {
        Sentence.of("A ring leaves a gap of 100 and 10 times the overcut of its ground", () -> {
            for (int i = 0; i < 4; i++) {
                Check.same("in " + KINDS.charAt(i), ringIn(KINDS.charAt(i)).lost(0), GAPS[i]);
            }
        });
        Sentence.of("Grout is put behind it, at most a fifth, cut, more than the gap in all", EdgesOfHouses::fifth);
        Sentence.of("600 minutes behind the first grout of a ring it has set", EdgesOfHouses::set);
        Sentence.of("and nothing more goes in", EdgesOfHouses::nothingMore);
        Sentence.of("What is lost is the gap less its grout, 0 at least", () -> {
            for (int i = 0; i < 4; i++) {
                int gap = GAPS[i];
                Boringhead x = ringIn(KINDS.charAt(i));
                Check.same("1 less than the gap", x.grout(0, gap - 1), 1);
                Check.same("as much as the gap", x.grout(0, 1), 0);
                Check.same("1 more than the gap", x.grout(0, 1), 0);
                Check.same("a fifth more", x.grout(0, gap / 5 - 1), 0);
                Check.same("lost then", x.lost(0), 0);
            }
        });
    }

    private static void fifth() {
        for (int i = 0; i < 4; i++) {
            char kind = KINDS.charAt(i);
            int most = GAPS[i] + GAPS[i] / 5;
            Edge.refused("1 too much at once in " + kind, Edge.UNSUPPORTED, x -> in(x, kind), x -> x.grout(0, most + 1));
            Edge.refused("1 too much in parts in " + kind, Edge.UNSUPPORTED, x -> {
                in(x, kind);
                x.grout(0, most - 1);
            }, x -> x.grout(0, 2));
            Edge.refused("1 when it is full in " + kind, Edge.UNSUPPORTED, x -> {
                in(x, kind);
                x.grout(0, most);
            }, x -> x.grout(0, 1));
            Boringhead x = ringIn(kind);
            x.grout(0, most - 1);
            Check.same("all that fits, in parts", x.grout(0, 1), 0);
            Check.same("the share", x.groutShare(), (float) most / (float) GAPS[i]);
        }
    }

    private static void in(Boringhead x, char kind) {
        x.ground(0, 0, kind);
        Scenes.clay(x, 1);
    }

    private static void set() {
        int[] firsts = {90, 91, 840, 1440, 50000, 99399};
        for (int first : firsts) {
            Boringhead x = Edge.made(y -> grouted(y, first, 599));
            Check.same("599 minutes behind " + first, x.grout(0, 1), 118);
            Edge.refused("600 minutes behind " + first, Edge.UNSUPPORTED, y -> grouted(y, first, 600), y -> y.grout(0, 1));
        }
        Edge.refused("by the first grout, not the last", Edge.UNSUPPORTED, y -> {
            grouted(y, 100, 599);
            y.grout(0, 1);
            y.pause(1, 'w', '-');
        }, y -> y.grout(0, 1));
        Boringhead x = Edge.made(y -> grouted(y, 90, 600));
        Check.same("a ring without grout has not set", x.grout(1, 1), 119);
        x.pause(599, 'w', '-');
        Check.same("by its own first grout", x.grout(1, 1), 118);
        Boringhead late = Edge.made(Scenes::threeRings);
        Scenes.waitUntil(late, 90000);
        Check.same("not by the ring's end", late.grout(0, 1), 119);
    }

    private static void grouted(Boringhead x, int minute, int behind) {
        Scenes.threeRings(x);
        Scenes.waitUntil(x, minute);
        x.grout(0, 1);
        Scenes.waitUntil(x, minute + behind);
    }

    private static void nothingMore() {
        for (int behind : new int[] {600, 601, 1440, 2040, 99909}) {
            Edge.refused("1 at " + behind, Edge.UNSUPPORTED, x -> grouted(x, 90, behind), x -> x.grout(0, 1));
            Edge.refused("200 at " + behind, Edge.UNSUPPORTED, x -> grouted(x, 90, behind), x -> x.grout(0, 200));
        }
        Edge.taken("all the rest ahead of it", x -> grouted(x, 90, 599), x -> x.grout(0, 143));
    }

    // ---- houses

    private static void houses() {
        Sentence.of("At most 8 houses are numbered from 0", () -> {
            Boringhead x = new Boringhead();
            for (int i = 0; i < 8; i++) {
                Check.same("number", x.house(i, i, i), i);
            }
            Edge.refused("a ninth", Edge.STATE, EdgesOfHouses::eight, y -> y.house(0, 0, 0));
        });
        Sentence.of("each from a place to another one, or the same", () -> {
            Edge.taken("the same", Scenes::fresh, x -> x.house(5, 5, 0));
            Edge.taken("the first place", Scenes::fresh, x -> x.house(0, 0, 0));
            Edge.taken("the last place", Scenes::fresh, x -> x.house(199, 199, 0));
            Edge.taken("all of them", Scenes::fresh, x -> x.house(0, 199, 0));
            Edge.refused("one ahead", Edge.ARGUMENT, Scenes::fresh, x -> x.house(5, 4, 0));
        });
        Sentence.of("at an offset, 0 to 60", () -> {
            Boringhead x = Edge.made(y -> Scenes.clay(y, 1));
            x.house(0, 0, 0);
            x.house(0, 0, 60);
            Check.same("at 0", x.settles(0, false), 12);
            Check.same("at 60", x.settles(1, false), 1);
            Edge.outside(Edge.ARGUMENT, Scenes::fresh, 0, 60, (y, offset) -> y.house(0, 0, offset));
        });
    }

    static void eight(Boringhead x) {
        for (int i = 0; i < 8; i++) {
            x.house(i, 2 * i, i);
        }
    }

    private static void three(Boringhead x) {
        Scenes.threeRings(x);
        x.house(0, 2, 0);
        x.house(2, 40, 60);
        x.house(199, 199, 60);
    }

    // ---- settlements

    private static void settlements() {
        Sentence.of("At one of its ends a house settles, for each ring", EdgesOfHouses::eachRing);
        Sentence.of("by what is lost there times the square of the depth at the ring", EdgesOfHouses::byLostAndDepth);
        Sentence.of("divided by 10 times the sum of that square, the square of how far the place is from that of the ring, "
                + "and the square of the offset, cut", EdgesOfHouses::cut);
        Sentence.of("less what it was lifted there", EdgesOfHouses::lifted);
        Sentence.of("Its tilt is how unlike both ends settle", EdgesOfHouses::tilts);
        Sentence.of("The class is 0 for a tilt below 10", () -> classes(0, 9, 10));
        Sentence.of("1 below 30", () -> classes(1, 29, 30));
        Sentence.of("2 below 60", () -> classes(2, 59, 60));
        Sentence.of("3 below 100, otherwise 4", () -> {
            classes(3, 99, 100);
            Check.same("by 500", tilted(500, true).damage(0), 4);
        });
    }

    private static void eachRing() {
        Boringhead x = new Boringhead();
        x.house(0, 0, 0);
        Check.same("without rings", x.settles(0, false), 0);
        x.pressure(100);
        x.deliver(2);
        x.advance(0);
        Check.same("by one", x.settles(0, false), 12);
        x.grout(0, 1);
        Check.same("by one with grout", x.settles(0, false), 11);
        x.advance(4);
        x.grout(1, 1);
        Check.same("by two, each one cut", x.settles(0, false), 11 + 11);
        Boringhead whole = Edge.made(Scenes::whole);
        int sum = 0;
        for (int ring = 0; ring < 120; ring++) {
            sum += 120 * 400 / (10 * (400 + (119 - ring) * (119 - ring)));
        }
        whole.house(119, 119, 0);
        Check.same("by 120", whole.settles(0, true), sum);
    }

    /** How a house settles at a place by one ring at place 0, of that depth. */
    private static int settled(int depth, int place, int offset, int grout) {
        Boringhead x = new Boringhead();
        x.depth(0, 0, depth);
        x.pressure(depth * 5);
        x.deliver(1);
        x.advance(0);
        x.house(place, place, offset);
        if (grout > 0) {
            x.grout(0, grout);
        }
        return x.settles(0, false);
    }

    private static void byLostAndDepth() {
        Check.same("lost 120", settled(20, 0, 0, 0), 12);
        Check.same("lost 111", settled(20, 0, 0, 9), 11);
        Check.same("lost 110", settled(20, 0, 0, 10), 11);
        Check.same("lost 109", settled(20, 0, 0, 11), 10);
        Check.same("lost 10", settled(20, 0, 0, 110), 1);
        Check.same("lost 9", settled(20, 0, 0, 111), 0);
        Check.same("lost 0", settled(20, 0, 0, 120), 0);
        Check.same("lost 0 with all that fits", settled(20, 0, 0, 144), 0);
        Check.same("depth 10", settled(10, 0, 10, 0), 6);
        Check.same("depth 60", settled(60, 0, 60, 0), 6);
        Check.same("depth 60 beside 10", settled(60, 0, 10, 0), 120 * 3600 / 37000);
        Check.same("depth 10 beside 60", settled(10, 0, 60, 0), 0);
        Boringhead x = new Boringhead();
        x.depth(0, 0, 60);
        x.depth(1, 1, 10);
        x.house(1, 1, 30);
        x.pressure(300);
        x.deliver(2);
        x.advance(0);
        Check.same("the depth at the ring, not at the house", x.settles(0, false), 120 * 3600 / (10 * (3600 + 1 + 900)));
    }

    private static void cut() {
        Check.same("offset 19", settled(20, 0, 19, 0), 6);
        Check.same("offset 20, without a rest", settled(20, 0, 20, 0), 6);
        Check.same("offset 20, a little less", settled(20, 0, 20, 1), 5);
        Check.same("offset 21", settled(20, 0, 21, 0), 5);
        Check.same("20 places away", settled(20, 20, 0, 0), 6);
        Check.same("21 places away", settled(20, 21, 0, 0), 5);
        Check.same("66 places away", settled(20, 66, 0, 0), 1);
        Check.same("67 places away", settled(20, 67, 0, 0), 0);
        Check.same("199 places away", settled(20, 199, 60, 0), 0);
        Check.same("199 places away, depth 60", settled(60, 199, 0, 0), 120 * 3600 / (10 * (3600 + 39601)));
        Check.same("20 places away, offset 20", settled(20, 20, 20, 0), 4);
        Check.same("20 places away, offset 21", settled(20, 20, 21, 0), 3);
        Boringhead x = Edge.made(Scenes::threeRings);
        x.house(0, 2, 20);
        Check.same("ahead of two rings", x.settles(0, false), 6 + 120 * 400 / 8010 + 120 * 400 / 8040);
        Check.same("behind two rings", x.settles(0, true), 6 + 120 * 400 / 8010 + 120 * 400 / 8040);
    }

    private static void lifted() {
        Boringhead x = Edge.made(EdgesOfHouses::three);
        x.lift(0, false, 33);
        Check.same("the first end by 33 of 34", x.settles(0, false), 1);
        x.lift(0, false, 1);
        Check.same("by 34", x.settles(0, false), 0);
        x.lift(0, false, 1);
        Check.same("by 35", x.settles(0, false), -1);
        Check.same("not the last end", x.settles(0, true), 34);
        Check.same("not another house", x.settles(1, false), settledBehind(Scenes::threeRings, 2, 40, 60));
        Boringhead same = new Boringhead();
        same.house(7, 7, 0);
        same.lift(0, true, 5);
        Check.same("one place, the first end", same.settles(0, false), 0);
        Check.same("one place, the last end", same.settles(0, true), -5);
    }

    /** How much the first end of such a house settles behind a scene. */
    private static int settledBehind(Consumer<Boringhead> scene, int from, int to, int offset) {
        Boringhead x = Edge.made(scene);
        return x.settles(x.house(from, to, offset), false);
    }

    /** A house whose ends settle unlike by lifting one of them. */
    private static Boringhead tilted(int tilt, boolean isLast) {
        Boringhead x = new Boringhead();
        x.house(100, 100, 60);
        for (int left = tilt; left > 0; left -= 50) {
            x.lift(0, isLast, Math.min(left, 50));
        }
        return x;
    }

    private static void tilts() {
        Check.same("alike", settledBehind(Scenes::threeRings, 0, 2, 0), 34);
        Check.same("alike, no tilt", Edge.made(EdgesOfHouses::three).tilt(0), 0);
        Check.same("the first one lifted by 1", tilted(1, false).tilt(0), 1);
        Check.same("the last one lifted by 1", tilted(1, true).tilt(0), 1);
        Check.same("the first one lifted by 500", tilted(500, false).tilt(0), 500);
        Boringhead x = tilted(70, true);
        x.lift(0, false, 50);
        Check.same("both lifted", x.tilt(0), 20);
        x.lift(0, false, 50);
        Check.same("the other one more", x.tilt(0), 30);
        Boringhead ends = Edge.made(y -> Scenes.clay(y, 1));
        ends.house(0, 20, 0);
        Check.same("the first end settles more", ends.tilt(0), 12 - 6);
    }

    private static void classes(int due, int last, int next) {
        for (boolean isLast : new boolean[] {false, true}) {
            Check.same("by " + last, tilted(last, isLast).damage(0), due);
            Check.same("by " + next, tilted(next, isLast).damage(0), due + 1);
        }
    }

    // ---- readings

    private static void readings() {
        Sentence.of("A reading keeps how much the end settles that settles more", () -> {
            Boringhead x = Edge.made(EdgesOfHouses::three);
            Check.same("alike", x.read(0), 34);
            x.lift(0, true, 1);
            Check.same("the first one", x.read(0), 34);
            x.lift(0, false, 2);
            Check.same("the last one", x.read(0), 33);
            x.lift(0, false, 50);
            x.lift(0, true, 40);
            Check.same("one below 0", x.read(0), -7);
            x.lift(0, true, 50);
            Check.same("the other one", x.read(0), -18);
            Check.same("without rings", Edge.made(y -> y.house(0, 0, 0)).read(0), 0);
        });
        Sentence.of("the alarm is by the last reading", () -> {
            Boringhead x = redHouse();
            Check.same("red", x.alarm(0), 'r');
            x.grout(0, 100);
            x.grout(1, 100);
            x.grout(2, 100);
            Check.same("red until it is read", x.alarm(0), 'r');
            x.read(0);
            Check.same("yellow then", x.alarm(0), 'y');
        });
        Sentence.of("'g' below 20", () -> alarms(19, 'g', 20, 'y'));
        Sentence.of("'y' below 50, otherwise 'r'", () -> {
            alarms(49, 'y', 50, 'r');
            alarms(51, 'r', 52, 'r');
        });
        Sentence.of("'-' without one", () -> {
            Boringhead x = Edge.made(EdgesOfHouses::three);
            Check.same("without", x.alarm(0), '-');
            x.read(0);
            Check.same("with one", x.alarm(0), 'y');
            Check.same("another house", x.alarm(1), '-');
            Boringhead y = Edge.made(z -> z.house(0, 0, 0));
            y.read(0);
            Check.same("with one of 0", y.alarm(0), 'g');
            y.lift(0, false, 50);
            y.lift(0, true, 50);
            y.read(0);
            Check.same("with one below 0", y.alarm(0), 'g');
        });
        Sentence.of("To lift an end by 1 to 50 takes 15 minutes", () -> {
            Boringhead x = Edge.made(EdgesOfHouses::three);
            x.lift(0, false, 1);
            Check.same("by 1", x.now(), 105);
            x.lift(0, true, 50);
            Check.same("by 50", x.now(), 120);
        });
    }

    /** Five rings in sand, by which a house at their midst settles by 71. */
    private static Boringhead redHouse() {
        Boringhead x = new Boringhead();
        x.ground(0, 4, 's');
        Scenes.clay(x, 5);
        x.house(2, 2, 0);
        Check.same("settled", x.read(0), 71);
        return x;
    }

    private static void alarms(int one, char alarm, int next, char nextAlarm) {
        alarmBy(one, alarm);
        alarmBy(next, nextAlarm);
    }

    private static void alarmBy(int reading, char alarm) {
        for (boolean isLast : new boolean[] {false, true}) {
            Boringhead x = redHouse();
            x.lift(0, !isLast, 50);
            x.lift(0, !isLast, 50);
            for (int left = 71 - reading; left > 0; left -= 50) {
                x.lift(0, isLast, Math.min(left, 50));
            }
            Check.same("reading", x.read(0), reading);
            Check.same("by " + reading, x.alarm(0), alarm);
        }
    }

    // ---- promises

    private static void promises26and27() {
        rings(26, (x, ring) -> x.grout(ring, 1));
        Sentence.of(26, "- `amount`: 1 to 200", () -> {
            Edge.inside(Scenes::threeRings, 1, 144, (x, amount) -> x.grout(0, amount));
            Edge.refused("200, which never fits", Edge.UNSUPPORTED, Scenes::threeRings, x -> x.grout(0, 200));
            Edge.refused("201", Edge.ARGUMENT, Scenes::threeRings, x -> x.grout(0, 201));
        });
        Sentence.of(26, "Returns what is lost there then", () -> {
            Boringhead x = Edge.made(Scenes::threeRings);
            Check.same("with 1", x.grout(2, 1), 119);
            Check.same("with 119", x.grout(2, 118), 1);
            Check.same("with 120", x.grout(2, 1), 0);
            Check.same("with 144", x.grout(2, 24), 0);
        });
        Sentence.of(26, "Throws `IllegalArgumentException` if it is out of range", () -> {
            Edge.outside(Edge.ARGUMENT, Scenes::threeRings, 1, 200, (x, amount) -> x.grout(2, amount));
            Edge.outside(Edge.ARGUMENT, x -> grouted(x, 90, 600), 1, 200, (x, amount) -> x.grout(0, amount));
        });
        Sentence.of(26, "if it would be more than fits", () -> {
            Edge.taken("144", Scenes::threeRings, x -> x.grout(1, 144));
            Edge.refused("145", Edge.UNSUPPORTED, Scenes::threeRings, x -> x.grout(1, 145));
        });
        Sentence.of(26, "the grout has set", () -> {
            Edge.taken("at 599", x -> grouted(x, 90, 599), x -> x.grout(0, 1));
            Edge.refused("at 600", Edge.UNSUPPORTED, x -> grouted(x, 90, 600), x -> x.grout(0, 1));
        });
        rings(27, Boringhead::lost);
        Sentence.of(27, "Returns how much", () -> {
            Boringhead x = Edge.made(Scenes::threeRings);
            Check.same("without grout", x.lost(2), 120);
            x.grout(2, 120);
            Check.same("with all", x.lost(2), 0);
            x.grout(2, 24);
            Check.same("with more", x.lost(2), 0);
        });
    }

    private static void rings(int promise, Edge.Numbered call) {
        Sentence.of(promise, "- `ring`: the ring", () -> {
            Edge.inside(Scenes::threeRings, 0, 2, call);
            Edge.inside(Scenes::whole, 0, 119, call);
        });
        Sentence.of(promise, "if there is no such ring", () -> {
            Edge.refused("0 without rings", Edge.INDEX, Scenes::fresh, x -> call.call(x, 0));
            Edge.outside(Edge.INDEX, Scenes::fresh, 0, -1, call);
            Edge.outside(Edge.INDEX, Scenes::threeRings, 0, 2, call);
            Edge.outside(Edge.INDEX, Scenes::whole, 0, 119, call);
            if (promise == 26) {
                Edge.outside(Edge.INDEX, Scenes::threeRings, 0, 2, (x, ring) -> x.grout(ring, 0));
                Edge.outside(Edge.INDEX, Scenes::threeRings, 0, 2, (x, ring) -> x.grout(ring, 201));
            }
        });
    }

    private static void promise28() {
        Sentence.of(28, "- `from`: the first place", () -> {
            Edge.inside(Scenes::threeRings, 0, 199, (x, from) -> x.house(from, 199, 0));
            Boringhead x = Edge.made(y -> Scenes.clay(y, 1));
            x.house(0, 199, 0);
            Check.same("its first end", x.settles(0, false), 12);
        });
        Sentence.of(28, "- `to`: the last one", () -> {
            Edge.inside(Scenes::threeRings, 0, 199, (x, to) -> x.house(0, to, 0));
            Boringhead x = Edge.made(y -> Scenes.clay(y, 1));
            x.house(0, 66, 0);
            x.house(0, 67, 0);
            Check.same("its last end at 66", x.settles(0, true), 1);
            Check.same("its last end at 67", x.settles(1, true), 0);
        });
        Sentence.of(28, "- `offset`: 0 to 60", () -> Edge.inside(Scenes::threeRings, 0, 60, (x, offset) -> x.house(0, 0, offset)));
        Sentence.of(28, "Returns its number", () -> {
            Boringhead x = Edge.made(Scenes::threeRings);
            for (int i = 0; i < 8; i++) {
                Check.same("number", x.house(0, 199, 60), i);
            }
        });
        Consumer<Boringhead> none = Scenes::threeRings;
        Consumer<Boringhead> full = EdgesOfHouses::eight;
        Sentence.of(28, "if a number is out of range", () -> {
            for (Consumer<Boringhead> scene : List.of(none, full)) {
                Edge.outside(Edge.ARGUMENT, scene, 0, 199, (x, from) -> x.house(from, 199, 0));
                Edge.outside(Edge.ARGUMENT, scene, 0, 199, (x, to) -> x.house(0, to, 0));
                Edge.outside(Edge.ARGUMENT, scene, 0, 199, (x, both) -> x.house(both, both, 0));
                Edge.outside(Edge.ARGUMENT, scene, 0, 60, (x, offset) -> x.house(0, 199, offset));
                Edge.refused("both ends of int", Edge.ARGUMENT, scene, x -> x.house(Integer.MIN_VALUE, Integer.MAX_VALUE, 0));
            }
        });
        Sentence.of(28, "the last place is ahead of the first", () -> {
            for (int[] row : new int[][] {{1, 0}, {199, 198}, {199, 0}, {60, 59}}) {
                Edge.refused(row[0] + " to " + row[1], Edge.ARGUMENT, none, x -> x.house(row[0], row[1], 0));
                Edge.refused(row[0] + " to " + row[1] + " as a ninth", Edge.ARGUMENT, full, x -> x.house(row[0], row[1], 0));
            }
        });
        Sentence.of(28, "if there are 8", () -> {
            Boringhead x = new Boringhead();
            for (int i = 0; i < 7; i++) {
                x.house(0, 0, 0);
            }
            Check.same("the eighth", x.house(199, 199, 60), 7);
            Edge.refused("the ninth", Edge.STATE, full, y -> y.house(199, 199, 60));
        });
    }

    /** The houses that there are, and those that there aren't. */
    private static void numbers(int promise, Edge.Numbered call) {
        Sentence.of(promise, "- `house`: the house", () -> {
            Edge.inside(x -> x.house(5, 5, 5), 0, 0, call);
            Edge.inside(EdgesOfHouses::three, 0, 2, call);
            Edge.inside(EdgesOfHouses::eight, 0, 7, call);
        });
        Sentence.of(promise, "if there is no such house", () -> {
            Edge.refused("0 without houses", Edge.INDEX, Scenes::threeRings, x -> call.call(x, 0));
            Edge.outside(Edge.INDEX, Scenes::threeRings, 0, -1, call);
            Edge.outside(Edge.INDEX, EdgesOfHouses::three, 0, 2, call);
            Edge.outside(Edge.INDEX, EdgesOfHouses::eight, 0, 7, call);
        });
    }

    private static void promises29to33() {
        numbers(29, (x, house) -> x.settles(house, true));
        Sentence.of(29, "- `last`: whether at its last place, otherwise at its first", () -> {
            Boringhead x = Edge.made(y -> Scenes.clay(y, 1));
            x.house(0, 20, 0);
            Check.same("at its first", x.settles(0, false), 12);
            Check.same("at its last", x.settles(0, true), 6);
        });
        Sentence.of(29, "how much, below 0 if it was lifted more", () -> {
            Boringhead x = Edge.made(EdgesOfHouses::three);
            x.lift(0, true, 34);
            Check.same("lifted as much", x.settles(0, true), 0);
            x.lift(0, true, 1);
            Check.same("lifted more", x.settles(0, true), -1);
        });
        numbers(30, Boringhead::tilt);
        Sentence.of(30, "Returns the tilt.", () -> {
            Check.same("none", tilted(0, true).tilt(0), 0);
            Check.same("one", tilted(1, true).tilt(0), 1);
            Check.same("one, at the first end", tilted(1, false).tilt(0), 1);
        });
        numbers(31, Boringhead::damage);
        Sentence.of(31, "Returns 0 to 4", () -> {
            int[] tilts = {0, 9, 10, 29, 30, 59, 60, 99, 100, 1000};
            for (int i = 0; i < tilts.length; i++) {
                Check.same("by " + tilts[i], tilted(tilts[i], true).damage(0), i / 2);
            }
        });
        numbers(32, Boringhead::read);
        Sentence.of(32, "Returns how much it is", () -> {
            Check.same("none", Edge.made(x -> x.house(0, 199, 0)).read(0), 0);
            Check.same("with three rings", Edge.made(EdgesOfHouses::three).read(0), 34);
            Boringhead x = redHouse();
            Check.same("the same again", x.read(0), 71);
        });
        numbers(33, Boringhead::alarm);
        Sentence.of(33, "Returns g, y, r, or -", () -> {
            Boringhead x = Edge.made(EdgesOfHouses::three);
            Check.same("none", x.alarm(2), '-');
            x.read(2);
            Check.same("green", x.alarm(2), 'g');
            x.read(0);
            Check.same("yellow", x.alarm(0), 'y');
            Check.same("red", redHouse().alarm(0), 'r');
        });
    }

    private static void promise34() {
        numbers(34, (x, house) -> x.lift(house, true, 5));
        Sentence.of(34, "Throws `IndexOutOfBoundsException`", () -> {
            Edge.outside(Edge.INDEX, EdgesOfHouses::three, 0, 2, (x, house) -> x.lift(house, true, 0));
            Edge.outside(Edge.INDEX, x -> threeAt(x, 99999), 0, 2, (x, house) -> x.lift(house, false, 51));
        });
        Sentence.of(34, "- `last`: whether at its last place", () -> {
            Boringhead x = Edge.made(EdgesOfHouses::three);
            x.lift(0, true, 3);
            Check.same("its last", x.settles(0, true), 31);
            Check.same("its first", x.settles(0, false), 34);
            x.lift(0, false, 5);
            Check.same("its first then", x.settles(0, false), 29);
        });
        Sentence.of(34, "- `amount`: 1 to 50", () -> {
            Edge.inside(EdgesOfHouses::three, 1, 50, (x, amount) -> {
                Check.same("by " + amount, x.lift(0, true, amount), 34 - amount);
                Check.same("the first end", x.settles(0, false), 34);
            });
        });
        Sentence.of(34, "how much it settles there then", () -> {
            Boringhead x = Edge.made(EdgesOfHouses::three);
            Check.same("by 33", x.lift(0, false, 33), 1);
            Check.same("by 34", x.lift(0, false, 1), 0);
            Check.same("by 84", x.lift(0, false, 50), -50);
            Check.same("the other end", x.lift(0, true, 1), 33);
        });
        Sentence.of(34, "if it is out of range", () -> {
            Edge.outside(Edge.ARGUMENT, EdgesOfHouses::three, 1, 50, (x, amount) -> x.lift(0, true, amount));
            Edge.outside(Edge.ARGUMENT, EdgesOfHouses::three, 1, 50, (x, amount) -> x.lift(2, false, amount));
            Edge.outside(Edge.ARGUMENT, x -> threeAt(x, 99999), 1, 50, (x, amount) -> x.lift(0, true, amount));
        });
        Sentence.of(34, "if the clock would go beyond its end", () -> {
            Boringhead x = Edge.made(y -> threeAt(y, 99984));
            Check.same("at 99984", x.lift(0, true, 50), -16);
            Check.same("the clock at its end", x.now(), 99999);
            Edge.refused("at 99985", Edge.STATE, y -> threeAt(y, 99985), y -> y.lift(0, true, 1));
            Edge.refused("at 99999", Edge.STATE, y -> threeAt(y, 99999), y -> y.lift(0, false, 50));
        });
    }

    private static void threeAt(Boringhead x, int minute) {
        three(x);
        Scenes.waitUntil(x, minute);
    }
}
