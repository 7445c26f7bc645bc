import java.util.ArrayList;
import java.util.List;
import java.util.function.Consumer;

/** The boundaries of "Exceptions": a refused call leaves all as it was, and of several exceptions the first listed is thrown. */
final class EdgesOfExceptions {
    private EdgesOfExceptions() {
    }

    private record Refused(String name, Class<? extends RuntimeException> type, Consumer<Boringhead> call) {
    }

    static void all() {
        Sentence.of("A method that throws an exception changes nothing", EdgesOfExceptions::nothingChanges);
        Sentence.of("If several exceptions apply, the one that is listed first is thrown", () -> {
            toldOfPlaces();
            numbersAndPlaces();
            ringsAndHouses();
            atTheClocksEnd();
        });
    }

    /** Rings, boreholes, houses, readings, notices, grout that has set, and jacks, foam and causes unlike those at first. */
    private static void rich(Boringhead x) {
        x.ground(0, 1, 'b');
        x.ground(4, 9, 's');
        x.reference(3, 6, 's');
        x.depth(5, 30, 40);
        x.water(4, 20, 3);
        x.bend(0, 5, 3, -2);
        x.bend(6, 40, -7, 11);
        for (int i = 0; i < 20; i++) {
            x.bore(3 * i, "csrb".charAt(i % 4));
        }
        x.pressure(100);
        x.deliver(38);
        x.steer(-2, 3);
        x.foam(true);
        x.advance(3);
        x.grout(0, 150);
        x.advance(0);
        x.notice(0);
        x.foam(false);
        x.advance(5);
        for (int i = 0; i < 8; i++) {
            x.house(i, 30 - i, 7 * i);
        }
        x.read(0);
        x.lift(0, true, 30);
        x.lift(1, false, 12);
        x.read(1);
        x.first('w');
        x.first('m');
        x.pause(700, 'h', 'w');
        x.grout(1, 20);
        x.change(7);
        x.lorries(2);
    }

    private static List<Refused> refusedOfRich() {
        List<Refused> calls = new ArrayList<>();
        int[] noPlaces = {-1, 200, Integer.MIN_VALUE, Integer.MAX_VALUE};
        for (int place : noPlaces) {
            add(calls, "ground", Edge.ARGUMENT, x -> x.ground(place, 199, 'r'));
            add(calls, "reference", Edge.ARGUMENT, x -> x.reference(3, place, 'r'));
            add(calls, "depth", Edge.ARGUMENT, x -> x.depth(place, 199, 11));
            add(calls, "water", Edge.ARGUMENT, x -> x.water(3, place, 11));
            add(calls, "bend", Edge.ARGUMENT, x -> x.bend(place, place, 1, 1));
            add(calls, "bore", Edge.ARGUMENT, x -> x.bore(place, 'c'));
            add(calls, "guess", Edge.ARGUMENT, x -> x.guess(place));
            add(calls, "doubt", Edge.ARGUMENT, x -> x.doubt(place));
            add(calls, "lower", Edge.ARGUMENT, x -> x.lower(place));
            add(calls, "upper", Edge.ARGUMENT, x -> x.upper(place));
            add(calls, "house", Edge.ARGUMENT, x -> x.house(0, place, 1));
        }
        for (int wrong : new int[] {Integer.MIN_VALUE, -21, 2001, Integer.MAX_VALUE}) {
            add(calls, "depth", Edge.ARGUMENT, x -> x.depth(3, 9, wrong));
            add(calls, "water", Edge.ARGUMENT, x -> x.water(3, 9, wrong));
            add(calls, "bend", Edge.ARGUMENT, x -> x.bend(3, 9, wrong, 1));
            add(calls, "bend", Edge.ARGUMENT, x -> x.bend(3, 9, 1, wrong));
            add(calls, "pressure", Edge.ARGUMENT, x -> x.pressure(wrong));
            add(calls, "worn", Edge.INDEX, x -> x.worn(wrong));
            add(calls, "change", Edge.INDEX, x -> x.change(wrong));
            add(calls, "steer", Edge.ARGUMENT, x -> x.steer(wrong, 1));
            add(calls, "steer", Edge.ARGUMENT, x -> x.steer(1, wrong));
            add(calls, "bars", Edge.ARGUMENT, x -> x.bars(wrong));
            add(calls, "advance", Edge.ARGUMENT, x -> x.advance(wrong));
            add(calls, "off", Edge.INDEX, x -> x.off(wrong, true));
            add(calls, "rotation", Edge.INDEX, x -> x.rotation(wrong));
            add(calls, "plan", Edge.ARGUMENT, x -> x.plan(wrong));
            add(calls, "squares", Edge.ARGUMENT, x -> x.squares(wrong));
            add(calls, "grout", Edge.INDEX, x -> x.grout(wrong, 1));
            add(calls, "grout", Edge.ARGUMENT, x -> x.grout(2, wrong));
            add(calls, "lost", Edge.INDEX, x -> x.lost(wrong));
            add(calls, "house", Edge.ARGUMENT, x -> x.house(0, 9, wrong));
            add(calls, "settles", Edge.INDEX, x -> x.settles(wrong, true));
            add(calls, "tilt", Edge.INDEX, x -> x.tilt(wrong));
            add(calls, "damage", Edge.INDEX, x -> x.damage(wrong));
            add(calls, "read", Edge.INDEX, x -> x.read(wrong));
            add(calls, "alarm", Edge.INDEX, x -> x.alarm(wrong));
            add(calls, "lift", Edge.INDEX, x -> x.lift(wrong, true, 5));
            add(calls, "lift", Edge.ARGUMENT, x -> x.lift(0, true, wrong));
            add(calls, "deliver", Edge.ARGUMENT, x -> x.deliver(wrong));
            add(calls, "lorries", Edge.ARGUMENT, x -> x.lorries(wrong));
            add(calls, "pause", Edge.ARGUMENT, x -> x.pause(wrong, 'g', '-'));
            add(calls, "notice", Edge.INDEX, x -> x.notice(wrong));
        }
        barredInRich(calls);
        return calls;
    }

    private static void barredInRich(List<Refused> calls) {
        for (char letter : new char[] {0, '?', 'x', 'C', 65535}) {
            add(calls, "ground", Edge.ARGUMENT, x -> x.ground(3, 9, letter));
            add(calls, "reference", Edge.ARGUMENT, x -> x.reference(3, 9, letter));
            add(calls, "bore", Edge.ARGUMENT, x -> x.bore(3, letter));
            add(calls, "pause", Edge.ARGUMENT, x -> x.pause(5, letter, '-'));
            add(calls, "pause", Edge.ARGUMENT, x -> x.pause(5, 'g', letter));
            add(calls, "first", Edge.ARGUMENT, x -> x.first(letter));
            add(calls, "waited", Edge.ARGUMENT, x -> x.waited(letter));
            add(calls, "count", Edge.ARGUMENT, x -> x.count(letter));
        }
        add(calls, "ground", Edge.UNSUPPORTED, x -> x.ground(2, 9, 'r'));
        add(calls, "reference", Edge.UNSUPPORTED, x -> x.reference(2, 9, 'r'));
        add(calls, "depth", Edge.UNSUPPORTED, x -> x.depth(2, 9, 55));
        add(calls, "water", Edge.UNSUPPORTED, x -> x.water(2, 9, 33));
        add(calls, "bend", Edge.UNSUPPORTED, x -> x.bend(2, 9, 1, 1));
        add(calls, "bore", Edge.STATE, x -> x.bore(9, 'c'));
        add(calls, "change", Edge.UNSUPPORTED, x -> x.change(7));
        add(calls, "advance", Edge.UNSUPPORTED, x -> x.advance(5));
        add(calls, "grout", Edge.UNSUPPORTED, x -> x.grout(0, 1));
        add(calls, "grout", Edge.UNSUPPORTED, x -> x.grout(1, 149));
        add(calls, "grout", Edge.UNSUPPORTED, x -> x.grout(2, 145));
        add(calls, "house", Edge.STATE, x -> x.house(9, 9, 9));
        add(calls, "deliver", Edge.UNSUPPORTED, x -> x.deliver(6));
        add(calls, "notice", Edge.UNSUPPORTED, x -> x.notice(0));
        add(calls, "notice", Edge.UNSUPPORTED, x -> x.notice(2));
    }

    private static void add(List<Refused> calls, String name, Class<? extends RuntimeException> type, Consumer<Boringhead> call) {
        calls.add(new Refused(name, type, call));
    }

    private static void nothingChanges() {
        List<Refused> calls = refusedOfRich();
        for (int i = 0; i < calls.size(); i++) {
            Refused refused = calls.get(i);
            Edge.refused("the refused call " + i + ", " + refused.name, refused.type, EdgesOfExceptions::rich, refused.call);
        }
        for (int from = 0; from < calls.size(); from += 60) {
            List<Refused> some = calls.subList(from, Math.min(from + 60, calls.size()));
            for (int view = 0; view < State.VIEWS; view++) {
                Boringhead met = Edge.made(EdgesOfExceptions::rich);
                for (Refused refused : some) {
                    Check.throwsIt(refused.name + " behind others", refused.type, met, refused.call);
                }
                String spared = State.of(Edge.made(EdgesOfExceptions::rich), view);
                Check.same("many refused calls leave", State.of(met, view), spared);
            }
        }
    }

    // ---- several at once

    private static void toldOfPlaces() {
        Consumer<Boringhead> rings = Scenes::threeRings;
        Edge.refused("ground: place, ring", Edge.ARGUMENT, rings, x -> x.ground(-1, 0, 's'));
        Edge.refused("ground: kind, ring", Edge.ARGUMENT, rings, x -> x.ground(0, 0, 'x'));
        Edge.refused("ground: ahead, ring", Edge.ARGUMENT, rings, x -> x.ground(1, 0, 's'));
        Edge.refused("reference: place, ring", Edge.ARGUMENT, rings, x -> x.reference(0, 200, 's'));
        Edge.refused("reference: kind, ring", Edge.ARGUMENT, rings, x -> x.reference(2, 2, 'x'));
        Edge.refused("reference: ahead, ring", Edge.ARGUMENT, rings, x -> x.reference(2, 1, 's'));
        Edge.refused("depth: number, ring", Edge.ARGUMENT, rings, x -> x.depth(0, 0, 9));
        Edge.refused("depth: ahead, ring", Edge.ARGUMENT, rings, x -> x.depth(1, 0, 20));
        Edge.refused("water: number, ring", Edge.ARGUMENT, rings, x -> x.water(0, 0, 41));
        Edge.refused("water: ahead, ring", Edge.ARGUMENT, rings, x -> x.water(1, 0, 20));
        Edge.refused("bend: right, ring", Edge.ARGUMENT, rings, x -> x.bend(0, 0, 21, 0));
        Edge.refused("bend: up, ring", Edge.ARGUMENT, rings, x -> x.bend(0, 0, 0, -21));
        Edge.refused("bend: ahead, ring", Edge.ARGUMENT, rings, x -> x.bend(1, 0, 0, 0));
    }

    private static void numbersAndPlaces() {
        Consumer<Boringhead> twenty = x -> {
            for (int i = 0; i < 20; i++) {
                x.bore(i, 'c');
            }
        };
        Edge.refused("bore: place, 20", Edge.ARGUMENT, twenty, x -> x.bore(200, 'c'));
        Edge.refused("bore: kind, 20", Edge.ARGUMENT, twenty, x -> x.bore(0, '?'));
        Edge.refused("house: place, 8", Edge.ARGUMENT, EdgesOfHouses::eight, x -> x.house(-1, 0, 0));
        Edge.refused("house: offset, 8", Edge.ARGUMENT, EdgesOfHouses::eight, x -> x.house(0, 0, 61));
        Edge.refused("house: ahead, 8", Edge.ARGUMENT, EdgesOfHouses::eight, x -> x.house(1, 0, 0));
        Edge.refused("deliver: number, room", Edge.ARGUMENT, x -> x.deliver(40), x -> x.deliver(0));
        Edge.refused("deliver: number above, room", Edge.ARGUMENT, x -> x.deliver(40), x -> x.deliver(41));
        Edge.refused("lorries: number, night", Edge.ARGUMENT, Scenes::threeRings, x -> x.lorries(0));
        Edge.refused("lorries: number, empty", Edge.ARGUMENT, x -> Scenes.waitUntil(x, 400), x -> x.lorries(101));
    }

    private static void ringsAndHouses() {
        Consumer<Boringhead> rings = Scenes::threeRings;
        Edge.refused("advance: rotation, barred", Edge.ARGUMENT, Scenes::fresh, x -> x.advance(8));
        Edge.refused("grout: ring, amount", Edge.INDEX, rings, x -> x.grout(3, 0));
        Edge.refused("grout: ring, amount above", Edge.INDEX, rings, x -> x.grout(-1, 201));
        Edge.refused("grout: amount, more than fits", Edge.ARGUMENT, rings, x -> x.grout(0, 201));
        Edge.refused("grout: amount, set", Edge.ARGUMENT, x -> {
            Scenes.threeRings(x);
            x.grout(0, 1);
            x.pause(600, 'w', '-');
        }, x -> x.grout(0, 0));
        Edge.refused("lift: house, amount", Edge.INDEX, rings, x -> x.lift(0, true, 0));
    }

    private static void end(Boringhead x) {
        Scenes.threeRings(x);
        x.house(0, 0, 0);
        Scenes.waitUntil(x, 99999);
    }

    private static void atTheClocksEnd() {
        Consumer<Boringhead> end = EdgesOfExceptions::end;
        Edge.refused("change: cutter, end", Edge.INDEX, end, x -> x.change(8));
        Edge.refused("change: not worn, end", Edge.UNSUPPORTED, x -> Scenes.waitUntil(x, 99999), x -> x.change(0));
        Edge.refused("advance: rotation, end", Edge.ARGUMENT, end, x -> x.advance(-1));
        Edge.refused("advance: barred, end", Edge.UNSUPPORTED, end, x -> x.advance(0));
        Edge.refused("lift: house, end", Edge.INDEX, end, x -> x.lift(1, true, 5));
        Edge.refused("lift: house, amount, end", Edge.INDEX, end, x -> x.lift(1, true, 0));
        Edge.refused("lift: amount, end", Edge.ARGUMENT, end, x -> x.lift(0, true, 51));
        Edge.refused("lorries: number, end", Edge.ARGUMENT, end, x -> x.lorries(0));
        Edge.refused("lorries: empty, end", Edge.UNSUPPORTED, x -> Scenes.waitUntil(x, 99999), x -> x.lorries(1));
        Edge.refused("lorries: night, end", Edge.UNSUPPORTED, x -> {
            EdgesOfShield.mucky(x, 20, 10);
            Scenes.waitUntil(x, 69 * 1440 + 300);
        }, x -> x.lorries(100));
        Edge.refused("pause: minutes, end", Edge.ARGUMENT, end, x -> x.pause(0, 'w', '-'));
        Edge.refused("pause: cause, end", Edge.ARGUMENT, end, x -> x.pause(1, '-', '-'));
        Edge.refused("pause: other, end", Edge.ARGUMENT, end, x -> x.pause(1, 'w', 'x'));
        Edge.refused("pause: twice, end", Edge.ARGUMENT, end, x -> x.pause(1, 'w', 'w'));
    }
}
