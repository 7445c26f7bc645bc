import java.util.function.Consumer;

/** The boundaries of the clock, segments, muck, lorries and waits, and of the promises 35 to 41. */
final class EdgesOfStuff {
    private static final String CAUSES = "gpcsmwh";
    private static final String OWNERS = "kbbbbnk";
    private static final int LAST_DAY = 69 * 1440;

    private EdgesOfStuff() {
    }

    static void all() {
        clock();
        segments();
        pit();
        lorries();
        waits();
        promises35and36();
        promise37();
        promises38and39();
        promises40and41();
    }

    private static void until(Boringhead x, int minute) {
        Scenes.waitUntil(x, minute);
    }

    private static void threeAt(Boringhead x, int minute) {
        Scenes.threeRings(x);
        until(x, minute);
    }

    // ---- the clock

    private static void clock() {
        Sentence.of("The clock goes by minutes from 0", () -> {
            Boringhead x = new Boringhead();
            Check.same("at first", x.now(), 0);
            x.pause(1, 'w', '-');
            Check.same("then", x.now(), 1);
        });
        Sentence.of("a day having 1440", () -> {
            for (int day : new int[] {0, 1, 2, 68}) {
                int turn = 1440 * (day + 1);
                night(turn - 1);
                night(turn);
                night(turn + 1);
                night(turn + 359);
                byDay(turn + 360);
                byDay(turn - 1440 + 360);
                byDay(turn - 121);
                night(turn - 120);
            }
        });
        Sentence.of("and up to 99999 at most", () -> {
            Boringhead x = Edge.made(y -> until(y, 99998));
            Check.same("99999", x.pause(1, 'w', '-'), 99999);
            Check.same("the clock", x.now(), 99999);
            Edge.refused("100000", Edge.STATE, y -> until(y, 99999), y -> y.pause(1, 'w', '-'));
        });
        Sentence.of("whatever would lead above that is refused", () -> {
            Consumer<Boringhead> end = y -> {
                y.house(0, 0, 0);
                threeAt(y, 99999);
            };
            Edge.refused("a wait", Edge.STATE, end, y -> y.pause(1, 'w', '-'));
            Edge.refused("a ring", Edge.STATE, end, y -> y.advance(1));
            Edge.refused("a change", Edge.STATE, end, y -> y.change(0));
            Edge.refused("a lift", Edge.STATE, end, y -> y.lift(0, true, 1));
            Edge.refused("lorries", Edge.STATE, end, y -> y.lorries(1));
            Edge.taken("what takes no time", end, EdgesOfStuff::timeless);
        });
    }

    private static void timeless(Boringhead x) {
        x.ground(3, 3, 's');
        x.bore(0, 'c');
        x.pressure(5);
        x.foam(true);
        x.steer(1, 1);
        x.grout(0, 1);
        x.house(0, 0, 0);
        x.read(0);
        x.deliver(3);
        x.first('w');
        Check.same("the clock stands", x.now(), 99999);
    }

    private static void night(int minute) {
        Edge.refused("at " + minute, Edge.UNSUPPORTED, x -> threeAt(x, minute), x -> x.lorries(1));
    }

    private static void byDay(int minute) {
        Boringhead x = Edge.made(y -> threeAt(y, minute));
        Check.same("at " + minute, x.lorries(1), 20);
        Check.same("the clock then", x.now(), minute + 5);
    }

    // ---- segments

    private static void segments() {
        Sentence.of("There is room for 40 segments", () -> {
            Boringhead x = new Boringhead();
            Check.same("39", x.deliver(39), 39);
            Edge.refused("41", Edge.UNSUPPORTED, y -> y.deliver(39), y -> y.deliver(2));
            Check.same("40", x.deliver(1), 40);
            Edge.refused("one more", Edge.UNSUPPORTED, y -> y.deliver(40), y -> y.deliver(1));
        });
        Sentence.of("none being there at first", () -> {
            Check.same("one then", new Boringhead().deliver(1), 1);
            Check.same("all then", new Boringhead().deliver(40), 40);
        });
        Sentence.of("a ring takes one", () -> {
            Boringhead x = Edge.made(y -> Scenes.clay(y, 1));
            Check.same("room for one", x.deliver(1), 40);
            Edge.refused("not for two", Edge.UNSUPPORTED, y -> Scenes.clay(y, 1), y -> y.deliver(2));
        });
    }

    // ---- the pit

    private static void full(Boringhead x) {
        EdgesOfShield.mucky(x, 20, 10);
    }

    private static void fullAt(Boringhead x, int minute) {
        full(x);
        until(x, minute);
    }

    private static void pit() {
        Sentence.of("The pit holds 2000 of muck", () -> {
            Boringhead x = Edge.made(EdgesOfStuff::full);
            Check.same("full", x.muck(), 2000);
            Check.same("no room", x.bars(1), 'm');
            Boringhead y = Edge.made(z -> EdgesOfShield.mucky(z, 20, 9));
            Check.same("room for the last 70", y.bars(1), '-');
            Edge.refused("one ring more", Edge.UNSUPPORTED, EdgesOfStuff::full, z -> z.advance(1));
        });
        Sentence.of("A lorry takes 20 of it away, or what is left", () -> {
            Boringhead x = Edge.made(y -> threeAt(y, 360));
            Check.same("20", x.lorries(1), 20);
            Check.same("muck then", x.muck(), 175);
            Check.same("160", x.lorries(8), 160);
            Check.same("what is left", x.lorries(1), 15);
            Check.same("muck then", x.muck(), 0);
        });
    }

    private static void lorries() {
        Sentence.of("lorries go if the minute of the day is 360 or later and ahead of 1320", () -> {
            for (int day : new int[] {0, 1440, 68 * 1440}) {
                night(day + 359);
                byDay(day + 360);
                byDay(day + 361);
                byDay(day + 1319);
                night(day + 1320);
                night(day + 1321);
            }
            night(LAST_DAY);
            night(LAST_DAY + 359);
            byDay(LAST_DAY + 360);
        });
        Sentence.of("as the first one goes", () -> {
            Boringhead x = Edge.made(y -> fullAt(y, 1319));
            Check.same("all go, the first one at 1319", x.lorries(100), 2000);
            Check.same("over the day's end", x.now(), 1319 + 500);
            Edge.refused("they go at 1320 alone", Edge.UNSUPPORTED, y -> fullAt(y, 1320), y -> y.lorries(100));
            Edge.refused("they go ahead of 360 alone", Edge.UNSUPPORTED, y -> threeAt(y, 359), y -> y.lorries(100));
        });
        Sentence.of("no more of them go than there is muck for", () -> {
            Boringhead x = Edge.made(y -> fullAt(y, 1440));
            x.pause(360, 'w', '-');
            Check.same("99 of them", x.lorries(99), 1980);
            Check.same("the clock", x.now(), 1800 + 495);
            Check.same("the last one of 100", x.lorries(100), 20);
            Check.same("the clock then", x.now(), 2300);
            Boringhead y = Edge.made(z -> threeAt(z, 360));
            Check.same("10 of 100", y.lorries(100), 195);
            Check.same("their time", y.now(), 410);
            Boringhead z = Edge.made(w -> threeAt(w, 360));
            Check.same("9 of 9", z.lorries(9), 180);
            Check.same("their time", z.now(), 405);
            Check.same("one of two for 15", z.lorries(2), 15);
            Check.same("its time", z.now(), 410);
        });
        Sentence.of("each that goes takes 5 minutes", () -> {
            for (int many = 1; many <= 10; many++) {
                Boringhead x = Edge.made(y -> threeAt(y, 500));
                x.lorries(many);
                Check.same("so many as " + many, x.now(), 500 + 5 * many);
            }
        });
    }

    // ---- waits

    private static void waits() {
        Sentence.of("To wait takes 1 to 1440 minutes", () -> {
            Check.same("1", new Boringhead().pause(1, 'g', '-'), 1);
            Check.same("1440", new Boringhead().pause(1440, 'g', '-'), 1440);
            Edge.outside(Edge.ARGUMENT, Scenes::threeRings, 1, 1440, (x, minutes) -> x.pause(minutes, 'g', '-'));
        });
        Sentence.of("with a cause, and perhaps another one", () -> {
            Edge.taken("one", Scenes::fresh, x -> x.pause(5, 'g', '-'));
            Edge.taken("two", Scenes::fresh, x -> x.pause(5, 'g', 'h'));
            Edge.refused("none", Edge.ARGUMENT, Scenes::fresh, x -> x.pause(5, '-', '-'));
            Edge.refused("the other one alone", Edge.ARGUMENT, Scenes::fresh, x -> x.pause(5, '-', 'h'));
        });
        Sentence.of("'g' ground, 'p' pressure, 'c' cutters, 's' segments, 'm' muck, 'w' weather, 'h' neighbours", () -> {
            Edge.letters(Scenes::fresh, CAUSES, (x, cause) -> x.pause(5, cause, '-'));
            Edge.letters(Scenes::fresh, CAUSES, Boringhead::first);
            Edge.otherLetters(Edge.ARGUMENT, Scenes::fresh, CAUSES, (x, cause) -> x.pause(5, cause, '-'));
        });
        Sentence.of("The contract has them in this order at first", () -> {
            for (int i = 0; i < 7; i++) {
                Check.same("place of " + CAUSES.charAt(i), new Boringhead().first(CAUSES.charAt(i)), i);
            }
        });
        Sentence.of("a cause can be put first, the others keeping theirs", () -> {
            for (int put = 0; put < 7; put++) {
                for (int other = 0; other < 7; other++) {
                    Boringhead x = new Boringhead();
                    x.first(CAUSES.charAt(put));
                    int due = other == put ? 0 : other < put ? other + 1 : other;
                    Check.same(CAUSES.charAt(other) + " behind " + CAUSES.charAt(put), x.first(CAUSES.charAt(other)), due);
                }
            }
        });
        Sentence.of("A wait is of that cause of both that is first in the contract as it begins", EdgesOfStuff::ofTheFirst);
        Sentence.of("Those of 'g' and 'h' are the client's, 'w' is nobody's, others the builder's", () -> {
            for (int i = 0; i < 7; i++) {
                Boringhead x = new Boringhead();
                x.pause(7, CAUSES.charAt(i), '-');
                owned("for " + CAUSES.charAt(i), x, OWNERS.charAt(i), 7);
            }
        });
    }

    private static void owned(String what, Boringhead x, char owner, int minutes) {
        for (char whose : "bkn".toCharArray()) {
            Check.same(what + ", " + whose, x.waited(whose), whose == owner ? minutes : 0);
        }
    }

    private static void ofTheFirst() {
        for (int one = 0; one < 7; one++) {
            for (int two = 0; two < 7; two++) {
                if (one == two) {
                    continue;
                }
                Boringhead x = new Boringhead();
                x.pause(3, CAUSES.charAt(one), CAUSES.charAt(two));
                owned("as told at first", x, OWNERS.charAt(Math.min(one, two)), 3);
                Boringhead y = new Boringhead();
                y.first(CAUSES.charAt(two));
                y.pause(3, CAUSES.charAt(one), CAUSES.charAt(two));
                y.first(CAUSES.charAt(one));
                owned("the other one put first", y, OWNERS.charAt(two), 3);
                y.pause(4, CAUSES.charAt(two), CAUSES.charAt(one));
                boolean isLike = OWNERS.charAt(one) == OWNERS.charAt(two);
                Check.same("the one put first then", y.waited(OWNERS.charAt(one)), isLike ? 7 : 4);
            }
        }
    }

    // ---- promises

    private static void promises35and36() {
        Sentence.of(35, "- `segments`: 1 to 40", () -> Edge.inside(Scenes::fresh, 1, 40, (x, segments) ->
                Check.same("then", x.deliver(segments), segments)));
        Sentence.of(35, "Returns how many there are", () -> {
            Boringhead x = new Boringhead();
            for (int i = 1; i <= 40; i++) {
                Check.same("then", x.deliver(1), i);
            }
            Boringhead y = Edge.made(Scenes::threeRings);
            Check.same("behind three rings", y.deliver(1), 38);
        });
        Sentence.of(35, "if it is out of range", () -> {
            Edge.outside(Edge.ARGUMENT, Scenes::fresh, 1, 40, Boringhead::deliver);
            Edge.outside(Edge.ARGUMENT, Scenes::threeRings, 1, 40, Boringhead::deliver);
            Edge.outside(Edge.ARGUMENT, x -> x.deliver(40), 1, 40, Boringhead::deliver);
        });
        Sentence.of(35, "if there is no room for all", () -> {
            for (int there = 1; there <= 40; there++) {
                int before = there;
                if (there < 40) {
                    Edge.taken("just enough", x -> x.deliver(before), x -> Check.same("full", x.deliver(40 - before), 40));
                }
                Edge.refused("one too much for " + there, Edge.UNSUPPORTED, x -> x.deliver(before), x -> x.deliver(41 - before));
            }
        });
        Sentence.of(36, "Returns how much.", () -> {
            Check.same("empty", new Boringhead().muck(), 0);
            Check.same("by one ring", Edge.made(x -> Scenes.clay(x, 1)).muck(), 65);
            Check.same("full", Edge.made(EdgesOfStuff::full).muck(), 2000);
            Boringhead x = Edge.made(y -> threeAt(y, 400));
            x.lorries(100);
            Check.same("empty again", x.muck(), 0);
        });
    }

    private static void promise37() {
        Sentence.of(37, "- `many`: 1 to 100", () -> Edge.inside(x -> fullAt(x, 1440 + 720), 1, 100, (x, many) -> {
            Check.same("they take", x.lorries(many), 20 * many);
            Check.same("muck then", x.muck(), 2000 - 20 * many);
            Check.same("the clock then", x.now(), 2160 + 5 * many);
        }));
        Sentence.of(37, "how much muck they take", () -> {
            Boringhead x = Edge.made(y -> threeAt(y, 400));
            Check.same("one", x.lorries(1), 20);
            Check.same("eight", x.lorries(8), 160);
            Check.same("the rest", x.lorries(1), 15);
        });
        Sentence.of(37, "if it is out of range", () -> {
            Edge.outside(Edge.ARGUMENT, x -> threeAt(x, 400), 1, 100, Boringhead::lorries);
            Edge.outside(Edge.ARGUMENT, Scenes::threeRings, 1, 100, Boringhead::lorries);
            Edge.outside(Edge.ARGUMENT, Scenes::fresh, 1, 100, Boringhead::lorries);
            Edge.outside(Edge.ARGUMENT, x -> threeAt(x, 99999), 1, 100, Boringhead::lorries);
        });
        Sentence.of(37, "if none go at this minute", () -> {
            Edge.refused("at 90", Edge.UNSUPPORTED, Scenes::threeRings, x -> x.lorries(1));
            night(359);
            byDay(360);
            byDay(1319);
            night(1320);
            Edge.refused("at night, and beyond the clock's end", Edge.UNSUPPORTED, x -> fullAt(x, LAST_DAY + 359), x -> x.lorries(100));
        });
        Sentence.of(37, "the pit is empty", () -> {
            Edge.refused("at first, by day", Edge.UNSUPPORTED, x -> until(x, 400), x -> x.lorries(1));
            Edge.refused("at first, at night", Edge.UNSUPPORTED, Scenes::fresh, x -> x.lorries(100));
            Edge.refused("emptied", Edge.UNSUPPORTED, x -> {
                threeAt(x, 400);
                x.lorries(10);
            }, x -> x.lorries(1));
            Edge.refused("at the clock's end", Edge.UNSUPPORTED, x -> until(x, 99999), x -> x.lorries(1));
            Edge.taken("5 left", x -> {
                Scenes.clay(x, 1);
                until(x, 400);
                x.lorries(3);
            }, x -> Check.same("5", x.lorries(1), 5));
        });
        Sentence.of(37, "if the clock would go beyond its end", EdgesOfStuff::lorriesAtTheEnd);
    }

    private static void lorriesAtTheEnd() {
        for (int many = 1; many <= 10; many++) {
            int going = many;
            Boringhead x = Edge.made(y -> threeAt(y, 99999 - 5 * going));
            x.lorries(many);
            Check.same("the clock at its end", x.now(), 99999);
            Edge.refused("one minute later", Edge.STATE, y -> threeAt(y, 100000 - 5 * going), y -> y.lorries(going));
        }
        Boringhead x = Edge.made(y -> threeAt(y, 99949));
        Check.same("10 of 100 alone take time", x.lorries(100), 195);
        Edge.refused("10 of 100", Edge.STATE, y -> threeAt(y, 99950), y -> y.lorries(100));
        Edge.taken("9 of them", y -> threeAt(y, 99950), y -> y.lorries(9));
        Boringhead full = Edge.made(y -> fullAt(y, LAST_DAY + 360));
        Check.same("55 to the end", full.lorries(55), 1100);
        Check.same("the clock", full.now(), LAST_DAY + 635);
        Edge.refused("56 beyond it", Edge.STATE, y -> fullAt(y, LAST_DAY + 360), y -> y.lorries(56));
    }

    private static void promises38and39() {
        Sentence.of(38, "Returns the minutes", () -> {
            Check.same("the least", new Boringhead().now(), 0);
            Check.same("the most", Edge.made(x -> until(x, 99999)).now(), 99999);
            Check.same("of three rings", Edge.made(Scenes::threeRings).now(), 90);
        });
        Sentence.of(39, "- `minutes`: 1 to 1440", () -> Edge.inside(Scenes::fresh, 1, 1440, (x, minutes) ->
                Check.same("the clock", x.pause(minutes, 'm', '-'), minutes)));
        Sentence.of(39, "- `cause`: the cause", () -> {
            Edge.letters(Scenes::fresh, CAUSES, (x, cause) -> x.pause(5, cause, '-'));
            Edge.letters(Scenes::fresh, "pcsmwh", (x, cause) -> x.pause(5, cause, 'g'));
        });
        Sentence.of(39, "- `other`: another cause, or -", () -> {
            Edge.letters(Scenes::fresh, "-pcsmwh", (x, other) -> x.pause(5, 'g', other));
            Edge.letters(Scenes::fresh, "-gpcsmw", (x, other) -> x.pause(5, 'h', other));
        });
        Sentence.of(39, "Returns the clock then", () -> {
            Boringhead x = Edge.made(Scenes::threeRings);
            Check.same("then", x.pause(1, 'w', '-'), 91);
            Check.same("a day later", x.pause(1440, 'w', '-'), 1531);
            Check.same("as now tells", x.now(), 1531);
        });
        Sentence.of(39, "if a number is out of range", () -> {
            Edge.outside(Edge.ARGUMENT, Scenes::threeRings, 1, 1440, (x, minutes) -> x.pause(minutes, 'g', '-'));
            Edge.outside(Edge.ARGUMENT, x -> until(x, 99999), 1, 1440, (x, minutes) -> x.pause(minutes, 'h', 'w'));
        });
        Sentence.of(39, "there is no such cause", () ->
                Edge.otherLetters(Edge.ARGUMENT, Scenes::threeRings, CAUSES, (x, cause) -> x.pause(5, cause, 'g')));
        Sentence.of(39, "for either", () -> {
            Edge.otherLetters(Edge.ARGUMENT, Scenes::threeRings, CAUSES + "-", (x, other) -> x.pause(5, 'g', other));
            Edge.otherLetters(Edge.ARGUMENT, x -> until(x, 99999), CAUSES + "-", (x, other) -> x.pause(5, 'g', other));
        });
        Sentence.of(39, "both are the same", () -> {
            for (char cause : CAUSES.toCharArray()) {
                Edge.refused("twice " + cause, Edge.ARGUMENT, Scenes::threeRings, x -> x.pause(5, cause, cause));
                Edge.refused("twice at the end " + cause, Edge.ARGUMENT, x -> until(x, 99999), x -> x.pause(1, cause, cause));
            }
            Edge.refused("twice none", Edge.ARGUMENT, Scenes::threeRings, x -> x.pause(5, '-', '-'));
        });
        Sentence.of(39, "if the clock would go beyond its end", () -> {
            for (int minutes : new int[] {1, 2, 100, 1439, 1440}) {
                Boringhead x = Edge.made(y -> until(y, 99999 - minutes));
                Check.same("to the end", x.pause(minutes, 'w', '-'), 99999);
                Edge.refused("one beyond it", Edge.STATE, y -> until(y, 100000 - minutes), y -> y.pause(minutes, 'h', 'w'));
            }
        });
    }

    private static void promises40and41() {
        Sentence.of(40, "- `cause`: the cause", () -> Edge.letters(Scenes::fresh, CAUSES, Boringhead::first));
        Sentence.of(40, "at which place it was, from 0", () -> {
            Boringhead x = new Boringhead();
            Check.same("the first", x.first('g'), 0);
            Check.same("the last", x.first('h'), 6);
            Check.same("the last again", x.first('h'), 0);
            Check.same("the second", x.first('g'), 1);
            Check.same("the last then", x.first('w'), 6);
        });
        Sentence.of(40, "if there is no such cause", () -> {
            Edge.otherLetters(Edge.ARGUMENT, Scenes::fresh, CAUSES, Boringhead::first);
            Edge.otherLetters(Edge.ARGUMENT, x -> x.first('h'), CAUSES, Boringhead::first);
        });
        Sentence.of(41, "- `whose`: b the builder's, k the client's, n nobody's", () -> {
            Edge.letters(Scenes::fresh, "bkn", (x, whose) -> Check.same("at first", x.waited(whose), 0));
            Boringhead x = new Boringhead();
            x.pause(1, 'p', '-');
            x.pause(20, 'h', '-');
            x.pause(300, 'w', '-');
            Check.same("the builder's", x.waited('b'), 1);
            Check.same("the client's", x.waited('k'), 20);
            Check.same("nobody's", x.waited('n'), 300);
        });
        Sentence.of(41, "Returns the minutes", () -> {
            Check.same("the most", Edge.made(x -> until(x, 99999)).waited('n'), 99999);
            Boringhead x = Edge.made(Scenes::boulders);
            x.change(0);
            x.notice(0);
            owned("what is no wait", x, 'b', 0);
        });
        Sentence.of(41, "if there is no such letter", () ->
                Edge.otherLetters(Edge.ARGUMENT, Scenes::threeRings, "bkn", Boringhead::waited));
    }
}
