/** The boundaries of events and notices, of the sums, and of the promises 42 to 49. */
final class EdgesOfContract {
    private static final String KINDS = "csrb";
    private static final int[] MINUTES = {30, 40, 90, 70};
    private static final int[] GAPS = {120, 150, 110, 140};

    private EdgesOfContract() {
    }

    static void all() {
        events();
        promises42to44();
        promise45();
        promises46and47();
        promise48();
        promise49();
    }

    // ---- events and notices

    private static void events() {
        Sentence.of("A ring whose ground is not that of the reference", () -> {
            for (char kind : KINDS.toCharArray()) {
                Check.same(kind + " as by the reference", met(kind, kind).events(), 0);
            }
        });
        Sentence.of("whose minutes by the table are more than those of the reference's kind, is an event", () -> {
            for (int i = 0; i < 4; i++) {
                for (int j = 0; j < 4; j++) {
                    int due = MINUTES[i] > MINUTES[j] ? 1 : 0;
                    Check.same(KINDS.charAt(i) + " for " + KINDS.charAt(j), met(KINDS.charAt(i), KINDS.charAt(j)).events(), due);
                }
            }
            Boringhead late = new Boringhead();
            late.ground(110, 110, 's');
            Scenes.driven(late, 111, 0, 4);
            Check.same("by the table, not less a tenth", late.events(), 1);
        });
        Sentence.of("with what is more as its minutes", () -> {
            for (int i = 0; i < 4; i++) {
                for (int j = 0; j < 4; j++) {
                    if (MINUTES[i] > MINUTES[j]) {
                        Boringhead x = met(KINDS.charAt(i), KINDS.charAt(j));
                        x.notice(0);
                        Check.same(KINDS.charAt(i) + " for " + KINDS.charAt(j), x.claimed(), MINUTES[i] - MINUTES[j]);
                    }
                }
            }
        });
        Sentence.of("A notice of it is in time at most 4320 minutes behind the end of the ring", EdgesOfContract::inTime);
        Sentence.of("one given later is given all the same, and lost", () -> {
            Boringhead x = Edge.made(y -> bouldersAt(y, 210 + 4321));
            Check.same("late", x.notice(2), false);
            Check.same("lost", x.claimed(), 0);
            Edge.refused("given all the same", Edge.UNSUPPORTED, y -> {
                bouldersAt(y, 210 + 4321);
                y.notice(2);
            }, y -> y.notice(2));
        });
        Sentence.of("Minutes of events with a notice in time are the client's", () -> {
            Boringhead x = Edge.made(Scenes::boulders);
            Check.same("none without a notice", x.claimed(), 0);
            x.notice(0);
            Check.same("of one", x.claimed(), 40);
        });
    }

    private static Boringhead met(char ground, char reference) {
        Boringhead x = new Boringhead();
        x.ground(0, 0, ground);
        x.reference(0, 0, reference);
        Scenes.clay(x, 1);
        return x;
    }

    /** Three events, whose rings end at 70, 140 and 210. */
    private static void bouldersAt(Boringhead x, int minute) {
        Scenes.boulders(x);
        Scenes.waitUntil(x, minute);
    }

    private static void inTime() {
        for (int ring = 0; ring < 3; ring++) {
            int end = 70 * (ring + 1);
            for (int behind : new int[] {210 - end, 4319, 4320, 4321, 4322, 90000}) {
                Boringhead x = Edge.made(y -> bouldersAt(y, end + behind));
                Check.same("ring " + ring + ", " + behind + " behind", x.notice(ring), behind <= 4320);
                Check.same("claimed then", x.claimed(), behind <= 4320 ? 40 : 0);
            }
        }
    }

    private static void promises42to44() {
        Sentence.of(42, "Returns how many.", () -> {
            Check.same("without rings", new Boringhead().events(), 0);
            Check.same("three", Edge.made(Scenes::boulders).events(), 3);
            Check.same("none", Edge.made(Scenes::threeRings).events(), 0);
            Boringhead x = new Boringhead();
            x.reference(0, 199, 'r');
            Scenes.clay(x, 1);
            Check.same("less than by the reference", x.events(), 0);
        });
        Sentence.of(43, "- `ring`: the ring", () -> Edge.inside(Scenes::boulders, 0, 2, (x, ring) -> {
            Check.same("in time", x.notice(ring), true);
            Check.same("claimed", x.claimed(), 40);
        }));
        Sentence.of(43, "Returns whether it is in time", () -> {
            Check.same("at once", Edge.made(Scenes::boulders).notice(2), true);
            Check.same("at 4320", Edge.made(x -> bouldersAt(x, 4530)).notice(2), true);
            Check.same("at 4321", Edge.made(x -> bouldersAt(x, 4531)).notice(2), false);
        });
        Sentence.of(43, "if there is no such ring", () -> {
            Edge.refused("0 without rings", Edge.INDEX, Scenes::fresh, x -> x.notice(0));
            Edge.outside(Edge.INDEX, Scenes::fresh, 0, -1, Boringhead::notice);
            Edge.outside(Edge.INDEX, Scenes::boulders, 0, 2, Boringhead::notice);
            Edge.outside(Edge.INDEX, Scenes::whole, 0, 119, Boringhead::notice);
        });
        Sentence.of(43, "if it is no event", () -> {
            Edge.refused("as by the reference", Edge.UNSUPPORTED, Scenes::threeRings, x -> x.notice(0));
            Edge.refused("less than by the reference", Edge.UNSUPPORTED, x -> {
                x.reference(0, 0, 's');
                Scenes.clay(x, 1);
            }, x -> x.notice(0));
            Edge.refused("the last of 120", Edge.UNSUPPORTED, Scenes::whole, x -> x.notice(119));
        });
        Sentence.of(43, "a notice was given", () -> {
            Edge.refused("in time", Edge.UNSUPPORTED, x -> {
                Scenes.boulders(x);
                x.notice(1);
            }, x -> x.notice(1));
            Edge.refused("late", Edge.UNSUPPORTED, x -> {
                bouldersAt(x, 4531);
                x.notice(2);
            }, x -> x.notice(2));
            Edge.refused("in time, and again late", Edge.UNSUPPORTED, x -> {
                Scenes.boulders(x);
                x.notice(1);
                Scenes.waitUntil(x, 9000);
            }, x -> x.notice(1));
            Edge.taken("of another ring", x -> {
                Scenes.boulders(x);
                x.notice(1);
            }, x -> x.notice(2));
        });
        Sentence.of(44, "Returns the minutes.", () -> {
            Check.same("without rings", new Boringhead().claimed(), 0);
            Boringhead x = Edge.made(y -> bouldersAt(y, 4460));
            x.notice(0);
            Check.same("one late", x.claimed(), 0);
            x.notice(1);
            Check.same("one in time", x.claimed(), 40);
            x.notice(2);
            Check.same("two in time", x.claimed(), 80);
        });
    }

    // ---- sums

    private static void promise45() {
        Sentence.of(45, "- `kind`: c, s, r or b", () -> Edge.letters(Scenes::fresh, KINDS, (x, kind) -> {
            Check.same("without rings", x.count(kind), 0);
            x.ground(0, 0, kind);
            Check.same("not by the place", x.count(kind), 0);
            Scenes.clay(x, 1);
            Check.same("with one", x.count(kind), 1);
        }));
        Sentence.of(45, "Returns how many.", () -> {
            Check.same("none of sand", Edge.made(Scenes::threeRings).count('s'), 0);
            Check.same("three of clay", Edge.made(Scenes::threeRings).count('c'), 3);
            Check.same("120 of clay", Edge.made(Scenes::whole).count('c'), 120);
        });
        Sentence.of(45, "if there is no such kind", () -> {
            Edge.otherLetters(Edge.ARGUMENT, Scenes::fresh, KINDS, Boringhead::count);
            Edge.otherLetters(Edge.ARGUMENT, Scenes::threeRings, KINDS, Boringhead::count);
        });
    }

    private static void promises46and47() {
        Sentence.of(46, "the grout divided by the gaps, both converted to float", () -> {
            for (int i = 0; i < 4; i++) {
                Boringhead x = met(KINDS.charAt(i), 'c');
                Check.same("none", x.groutShare(), 0f);
                x.grout(0, 1);
                Check.same("the least", x.groutShare(), 1f / GAPS[i]);
                x.grout(0, GAPS[i] - 1);
                Check.same("all", x.groutShare(), 1f);
                x.grout(0, GAPS[i] / 5);
                Check.same("the most", x.groutShare(), (float) (GAPS[i] + GAPS[i] / 5) / (float) GAPS[i]);
            }
            Boringhead whole = Edge.made(Scenes::whole);
            whole.grout(119, 7);
            Check.same("of 120", whole.groutShare(), 7f / 14400f);
            whole.grout(0, 144);
            whole.grout(60, 1);
            Check.same("of 120, at three of them", whole.groutShare(), 152f / 14400f);
        });
        Sentence.of(46, "if there are no rings", () -> {
            Edge.refused("at first", Edge.ARITHMETIC, Scenes::fresh, Boringhead::groutShare);
            Edge.refused("with all but rings", Edge.ARITHMETIC, x -> {
                x.pressure(100);
                x.deliver(40);
                x.pause(5, 'w', '-');
            }, Boringhead::groutShare);
            Edge.taken("with one", x -> Scenes.clay(x, 1), Boringhead::groutShare);
        });
        Sentence.of(47, "the sum divided by their number, both converted to double", () -> {
            Check.same("of one", met('r', 'c').meanMinutes(), 90.0);
            Boringhead x = new Boringhead();
            x.ground(2, 2, 's');
            Scenes.clay(x, 3);
            Check.same("of 30, 30, 40", x.meanMinutes(), 100.0 / 3.0);
            x.pause(1000, 'w', '-');
            Check.same("not of waits", x.meanMinutes(), 100.0 / 3.0);
            Check.same("of 120", Edge.made(Scenes::whole).meanMinutes(), 2950.0 / 120.0);
        });
        Sentence.of(47, "if there are no rings", () -> {
            Edge.refused("at first", Edge.ARITHMETIC, Scenes::fresh, Boringhead::meanMinutes);
            Edge.refused("behind a wait", Edge.ARITHMETIC, x -> x.pause(5, 'w', '-'), Boringhead::meanMinutes);
            Edge.taken("with one", x -> Scenes.clay(x, 1), Boringhead::meanMinutes);
        });
    }

    private static void promise48() {
        Sentence.of(48, "7 at first", () -> Check.same("with the clock at 0", new Boringhead().checksum(), 7 * 31));
        Sentence.of(48, "then for each ring, in turn, 31 times itself plus its rotation, its place off the line to the right, "
                + "that up, and what is lost, 31 times itself ahead of each", () -> {
            Boringhead x = new Boringhead();
            x.bend(0, 1, 17, -20);
            Scenes.clay(x, 2);
            x.grout(1, 100);
            long sum = ring(7, 0, -17, 30, 120);
            sum = ring(sum, 4, -51, 70, 20);
            Check.same("of two rings", x.checksum(), 31 * sum + 60);
        });
        Sentence.of(48, "then 31 times itself plus the clock", () -> {
            Boringhead x = new Boringhead();
            x.pause(1, 'w', '-');
            Check.same("at 1", x.checksum(), 218);
            Check.same("at 99999", Edge.made(y -> Scenes.waitUntil(y, 99999)).checksum(), 217 + 99999);
        });
        Sentence.of(48, "a sum over the tunnel", () -> {
            Boringhead x = Edge.made(Scenes::whole);
            long sum = 7;
            for (int i = 0; i < 120; i++) {
                sum = ring(sum, i % 2 == 0 ? 0 : 4, 0, 10 * (i / 2 + 1), 120);
            }
            Check.same("of 120 rings, going round", x.checksum(), 31 * sum + x.now());
        });
    }

    private static long ring(long sum, int... parts) {
        long more = sum;
        for (int part : parts) {
            more = 31 * more + part;
        }
        return more;
    }

    private static void promise49() {
        Sentence.of(49, "reckoned anew from the rings, one by one, places off the line, muck that came, and events are the same", () -> {
            Check.same("without rings", new Boringhead().isSound(), true);
            Boringhead x = Edge.made(Scenes::boulders);
            x.notice(0);
            Scenes.waitUntil(x, 400);
            x.lorries(100);
            Check.same("with events, muck carried away", x.isSound(), true);
            Check.same("with a full pit", Edge.made(y -> EdgesOfShield.mucky(y, 20, 10)).isSound(), true);
            Boringhead pushed = new Boringhead();
            pushed.steer(5, -3);
            pushed.bend(0, 2, -20, 7);
            Scenes.clay(pushed, 3);
            Check.same("with jacks and bends", pushed.isSound(), true);
            pushed.steer(-4, 1);
            pushed.plan(3);
            Check.same("behind a plan", pushed.isSound(), true);
            Check.same("asked again", pushed.isSound(), true);
            Check.same("far off the line", Edge.made(EdgesOfLine::farOff).isSound(), true);
        });
        Sentence.of(49, "no two rings one behind the other have the same rotation", () -> {
            Check.same("with 120", Edge.made(Scenes::whole).isSound(), true);
            Check.same("with one between", Edge.made(Scenes::threeRings).isSound(), true);
        });
        Sentence.of(49, "no ring has more grout than fits", () -> {
            for (int i = 0; i < 4; i++) {
                Boringhead x = met(KINDS.charAt(i), 'c');
                x.grout(0, GAPS[i] + GAPS[i] / 5);
                Check.same("with all that fits in " + KINDS.charAt(i), x.isSound(), true);
            }
        });
        Sentence.of(49, "and the clock is the sum of all that took time", () -> {
            Boringhead x = Edge.made(Scenes::boulders);
            x.change(0);
            x.change(1);
            x.house(0, 0, 0);
            x.lift(0, false, 50);
            x.lift(0, true, 1);
            Scenes.waitUntil(x, 99900);
            x.lorries(3);
            x.lorries(1);
            x.pause(79, 'g', 'p');
            Check.same("at the clock's end", x.now(), 99999);
            Check.same("with all kinds of it", x.isSound(), true);
        });
        Sentence.of(49, "Returns true if so", () -> Check.same("at first", new Boringhead().isSound(), true));
    }
}
