/** Promises 10 to 18: the pressure, foam, cutters, jacks, what bars a ring, and driving on. */
public final class ShieldTest {
    private static final Class<IllegalArgumentException> ARGUMENT = IllegalArgumentException.class;
    private static final Class<UnsupportedOperationException> UNSUPPORTED = UnsupportedOperationException.class;
    private static final Class<IllegalStateException> STATE = IllegalStateException.class;
    private static final Class<IndexOutOfBoundsException> INDEX = IndexOutOfBoundsException.class;

    public static void main(String[] args) {
        pressure();
        bounds();
        foam();
        worn();
        change();
        steer();
        barsInOrder();
        barOfPressure();
        barOfSegments();
        barOfCutters();
        barOfTheEnd();
        noSuchRotation();
        barOfHouse();
        barOfPit();
        advance();
        learning();
        clockEnd();
        Check.end();
    }

    private static void pressure() {
        Boringhead x = new Boringhead();
        Check.same("pressure at first", x.pressure(2000), 0);
        Check.same("pressure then", x.pressure(0), 2000);
        for (int pressure : new int[] {-1, 2001, Integer.MIN_VALUE}) {
            Check.refused("pressure " + pressure, ARGUMENT, Scenes::threeRings, y -> y.pressure(pressure));
        }
    }

    private static void bounds() {
        Boringhead x = new Boringhead();
        x.ground(1, 1, 's');
        x.ground(2, 2, 'r');
        x.ground(3, 3, 'b');
        x.depth(0, 3, 30);
        x.water(0, 3, 7);
        int[] lower = {130, 190, 70, 160};
        int[] upper = {310, 220, 670, 280};
        for (int i = 0; i < 4; i++) {
            Check.same("lower " + i, x.lower(i), lower[i]);
            Check.same("upper " + i, x.upper(i), upper[i]);
        }
        Check.same("lower 199", x.lower(199), 40);
        Check.same("upper 199", x.upper(199), 160);
        for (int place : new int[] {-1, 200, Integer.MAX_VALUE}) {
            Check.refused("lower at " + place, ARGUMENT, Scenes::fresh, y -> y.lower(place));
            Check.refused("upper at " + place, ARGUMENT, Scenes::fresh, y -> y.upper(place));
        }
    }

    private static void foam() {
        Boringhead x = new Boringhead();
        Check.same("foam at first", x.foam(true), false);
        Check.same("foam told again", x.foam(true), true);
        Check.same("foam taken away", x.foam(false), true);
        Check.same("foam then", x.foam(false), false);
    }

    private static Boringhead oneRing(char kind, boolean isFoamed) {
        Boringhead x = new Boringhead();
        x.ground(0, 0, kind);
        x.foam(isFoamed);
        Scenes.clay(x, 1);
        return x;
    }

    private static void worn() {
        char[] kinds = {'c', 's', 'r', 'b'};
        int[] plain = {1, 4, 12, 20};
        int[] foamed = {1, 2, 12, 10};
        for (int i = 0; i < kinds.length; i++) {
            Boringhead x = oneRing(kinds[i], false);
            Boringhead y = oneRing(kinds[i], true);
            for (int cutter = 0; cutter < 8; cutter++) {
                int times = cutter < 2 ? 2 : 1;
                Check.same("worn " + cutter + " by " + kinds[i], x.worn(cutter), times * plain[i]);
                Check.same("worn " + cutter + " by " + kinds[i] + " with foam", y.worn(cutter), times * foamed[i]);
            }
        }
        for (int cutter : new int[] {-1, 8, Integer.MIN_VALUE}) {
            Check.refused("worn " + cutter, INDEX, Scenes::threeRings, y -> y.worn(cutter));
        }
    }

    private static void nearEnd(Boringhead x) {
        Scenes.threeRings(x);
        Scenes.waitUntil(x, 99979);
    }

    private static void change() {
        int[] waters = {0, 10, 11, 20, 21, 30, 31, 40};
        int[] minutes = {20, 20, 50, 50, 80, 80, 140, 140};
        for (int i = 0; i < waters.length; i++) {
            Boringhead x = new Boringhead();
            Scenes.clay(x, 3);
            x.water(3, 3, waters[i]);
            x.water(4, 199, 40 - waters[i]);
            Check.same("minutes by water " + waters[i], x.change(7), minutes[i]);
            Check.same("clock then", x.now(), 90 + minutes[i]);
            Check.same("worn then", x.worn(7), 0);
            Check.same("another one then", x.worn(6), 3);
            Check.same("soundness then", x.isSound(), true);
        }
        for (int cutter : new int[] {-1, 8, Integer.MAX_VALUE}) {
            Check.refused("change " + cutter, INDEX, Scenes::threeRings, y -> y.change(cutter));
        }
        Check.refused("change of one not worn", UNSUPPORTED, Scenes::fresh, y -> y.change(0));
        Boringhead x = new Boringhead();
        nearEnd(x);
        Check.same("change at the clock's end", x.change(0), 20);
        Check.same("clock then", x.now(), 99999);
    }

    private static void steer() {
        Boringhead x = new Boringhead();
        Check.same("jacks at first", x.steer(5, -5), 0);
        Check.same("jacks then", x.steer(-5, 5), 45);
        Check.same("jacks again", x.steer(3, 2), -45);
        Scenes.clay(x, 2);
        Check.same("heading to the right by the jacks", x.heading(false), 6);
        Check.same("heading up by the jacks", x.heading(true), 4);
        for (int push : new int[] {-6, 6, Integer.MIN_VALUE}) {
            Check.refused("jacks to the right " + push, ARGUMENT, Scenes::threeRings, y -> y.steer(push, 0));
            Check.refused("jacks up " + push, ARGUMENT, Scenes::threeRings, y -> y.steer(0, push));
        }
    }

    /** All bars but the end stand at once; each is taken away in turn, and the next one shows. */
    private static void barsInOrder() {
        Boringhead x = new Boringhead();
        x.ground(28, 29, 'r');
        x.house(0, 29, 0);
        x.pressure(100);
        x.deliver(30);
        for (int i = 0; i < 30; i++) {
            x.advance(i % 2 == 0 ? 0 : 4);
        }
        x.read(0);
        x.pressure(39);
        Check.same("bar of the pressure", x.bars(4), 'p');
        x.pressure(100);
        Check.same("bar of the cutters", x.bars(4), 'c');
        x.change(0);
        Check.same("one is worn out still", x.bars(4), 'c');
        x.change(1);
        Check.same("bar of the segments", x.bars(4), 's');
        x.deliver(1);
        Check.same("bar of the pit", x.bars(4), 'm');
        Scenes.waitUntil(x, 1800);
        x.lorries(10);
        Check.same("bar of the ring ahead", x.bars(4), 'j');
        Check.same("bar of the house", x.bars(1), 'a');
        x.house(20, 29, 60);
        x.read(1);
        Check.same("bar of the house beside another one", x.bars(1), 'a');
    }

    private static void barOfPressure() {
        Boringhead x = new Boringhead();
        x.ground(0, 0, 'b');
        x.deliver(1);
        int[] pressures = {59, 60, 140, 141};
        char[] bars = {'p', '-', '-', 'p'};
        for (int i = 0; i < pressures.length; i++) {
            x.pressure(pressures[i]);
            Check.same("bar by the pressure " + pressures[i], x.bars(0), bars[i]);
        }
        x.water(0, 0, 3);
        Check.same("bar by water", x.bars(0), '-');
        x.pressure(89);
        Check.same("bar by water then", x.bars(0), 'p');
    }

    private static void barOfSegments() {
        Boringhead x = new Boringhead();
        x.pressure(100);
        Check.same("bar of the segments", x.bars(0), 's');
        x.deliver(1);
        Check.same("no bar", x.bars(0), '-');
        x.advance(0);
        Check.same("bar of the segments then", x.bars(0), 's');
        x.deliver(1);
        Check.same("bar of the ring ahead then", x.bars(0), 'j');
        Check.same("no bar then", x.bars(7), '-');
    }

    private static void barOfTheEnd() {
        Boringhead x = new Boringhead();
        Scenes.whole(x);
        Check.same("rings in all", x.rings(), 120);
        x.pressure(0);
        Check.same("bar of the end", x.bars(0), 'e');
    }

    private static void noSuchRotation() {
        for (int rotation : new int[] {-1, 8, Integer.MAX_VALUE}) {
            Check.refused("bars of " + rotation, ARGUMENT, Scenes::threeRings, y -> y.bars(rotation));
        }
    }

    private static void barOfCutters() {
        Check.same("worn 99 bars nothing", worn(3).bars(1), '-');
        Check.same("worn 100 bars", worn(4).bars(1), 'c');
        for (int cutter = 0; cutter < 2; cutter++) {
            Boringhead x = new Boringhead();
            Scenes.boulders(x);
            x.change(cutter);
            Check.same("bar of the other one", x.bars(1), 'c');
            x.change(1 - cutter);
            Check.same("no bar with both changed", x.bars(1), '-');
        }
    }

    /** Cutters 2 to 7 worn by 96 in rock, 0 and 1 changed in time, and so many rings of clay more. */
    private static Boringhead worn(int clay) {
        Boringhead x = new Boringhead();
        x.ground(0, 7, 'r');
        x.pressure(100);
        x.deliver(40);
        for (int i = 0; i < 8 + clay; i++) {
            if (i == 4 || i == 8) {
                x.change(0);
                x.change(1);
            }
            x.advance(i % 2 == 0 ? 0 : 4);
        }
        Check.same("worn in rock and clay", x.worn(2), 96 + clay);
        return x;
    }

    private static Boringhead besideHouse(int from, int to) {
        Boringhead x = new Boringhead();
        x.ground(0, 2, 's');
        x.pressure(100);
        x.deliver(40);
        x.house(from, to, 0);
        for (int i = 0; i < 12; i++) {
            x.advance(i % 2 == 0 ? 0 : 4);
        }
        return x;
    }

    private static void barOfHouse() {
        int[][] houses = {{0, 2}, {0, 1}, {22, 30}, {23, 30}, {12, 12}};
        char[] bars = {'a', '-', 'a', '-', 'a'};
        for (int i = 0; i < houses.length; i++) {
            String name = "house from " + houses[i][0] + " to " + houses[i][1];
            Boringhead x = besideHouse(houses[i][0], houses[i][1]);
            Check.same(name + ": bar without a reading", x.bars(1), '-');
            x.read(0);
            Check.same(name + ": alarm", x.alarm(0), 'r');
            Check.same(name + ": bar", x.bars(1), bars[i]);
        }
        Boringhead within = new Boringhead();
        within.house(0, 199, 0);
        Scenes.clay(within, 10);
        within.read(0);
        Check.same("alarm of the house above", within.alarm(0), 'r');
        Check.same("bar under a house", within.bars(1), 'a');
        for (int i = 0; i < 10; i++) {
            within.grout(i, 120);
        }
        Check.same("bar by the last reading still", within.bars(1), 'a');
        within.read(0);
        Check.same("no bar behind a new reading", within.bars(1), '-');
        within.house(0, 0, 60);
        Check.same("a house without a reading bars nothing", within.bars(1), '-');
    }

    private static void barOfPit() {
        Boringhead x = new Boringhead();
        Scenes.clay(x, 30);
        Check.same("muck of 30 rings", x.muck(), 1950);
        Check.same("bar of the pit", x.bars(1), 'm');
        Check.same("bar of the pit ahead of the ring's", x.bars(4), 'm');
        Boringhead y = new Boringhead();
        y.ground(0, 1, 's');
        y.ground(30, 30, 's');
        Scenes.clay(y, 30);
        Check.same("muck of 30 rings, two of them in sand", y.muck(), 1940);
        Check.same("room of 60 for 60", y.bars(1), '-');
        y.foam(true);
        Check.same("room of 60 for 65", y.bars(1), 'm');
    }

    private static void advance() {
        char[] kinds = {'c', 's', 'r', 'b'};
        int[] minutes = {30, 40, 90, 70};
        int[] mucks = {65, 60, 80, 70};
        for (int i = 0; i < kinds.length; i++) {
            Boringhead x = new Boringhead();
            x.ground(0, 0, kinds[i]);
            x.pressure(100);
            x.deliver(2);
            Check.same("minutes in " + kinds[i], x.advance(6), minutes[i]);
            Check.same("clock then", x.now(), minutes[i]);
            Check.same("muck then", x.muck(), mucks[i]);
            Check.same("muck with foam", oneRing(kinds[i], true).muck(), mucks[i] + 5);
            Check.same("segments then", x.deliver(1), 2);
            Check.same("rings then", x.rings(), 1);
            Check.same("rotation then", x.rotation(0), 6);
        }
        for (int rotation : new int[] {-1, 8, Integer.MIN_VALUE}) {
            Check.refused("advance with " + rotation, ARGUMENT, Scenes::fresh, y -> y.advance(rotation));
        }
        Check.refused("advance without pressure", UNSUPPORTED, Scenes::fresh, y -> y.advance(0));
        Check.refused("advance with the rotation of the ring ahead", UNSUPPORTED, Scenes::threeRings, y -> y.advance(0));
        Check.refused("advance with worn cutters", UNSUPPORTED, Scenes::boulders, y -> y.advance(1));
        Check.refused("advance at the end", UNSUPPORTED, Scenes::whole, y -> y.advance(1));
    }

    private static void learning() {
        Boringhead x = new Boringhead();
        x.pressure(100);
        x.deliver(40);
        for (int i = 0; i < 30; i++) {
            Check.same("minutes of ring " + i, x.advance(i % 2 == 0 ? 0 : 4), 30 - i / 10);
        }
        Boringhead whole = new Boringhead();
        Scenes.whole(whole);
        int sum = 0;
        for (int i = 0; i < 120; i++) {
            sum += 30 - Math.min(10, i / 10);
        }
        Check.same("mean minutes of 120 rings", whole.meanMinutes(), sum / 120.0);
        Check.same("soundness of 120 rings", whole.isSound(), true);
    }

    private static void clockEnd() {
        Boringhead x = new Boringhead();
        Scenes.threeRings(x);
        Scenes.waitUntil(x, 99969);
        Check.same("ring at the clock's end", x.advance(1), 30);
        Check.same("clock then", x.now(), 99999);
        Check.refused("ring beyond the clock's end", STATE, y -> {
            Scenes.threeRings(y);
            Scenes.waitUntil(y, 99970);
        }, y -> y.advance(1));
        Check.refused("change beyond the clock's end", STATE, y -> {
            nearEnd(y);
            y.pause(1, 'w', '-');
        }, y -> y.change(0));
        Check.refused("barred and beyond the clock's end", UNSUPPORTED, ShieldTest::nearEnd, y -> y.advance(0));
        Check.refused("not worn and beyond the clock's end", UNSUPPORTED, y -> Scenes.waitUntil(y, 99999), y -> y.change(0));
    }
}
