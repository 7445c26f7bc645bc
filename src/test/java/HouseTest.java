/** Promises 26 to 34: grout, houses, settlements, readings, alarms, lifting. */
public final class HouseTest {
    private static final Class<IllegalArgumentException> ARGUMENT = IllegalArgumentException.class;
    private static final Class<UnsupportedOperationException> UNSUPPORTED = UnsupportedOperationException.class;
    private static final Class<IllegalStateException> STATE = IllegalStateException.class;
    private static final Class<IndexOutOfBoundsException> INDEX = IndexOutOfBoundsException.class;
    private static final int[] NONE = {-1, 3, 8, Integer.MIN_VALUE, Integer.MAX_VALUE};

    public static void main(String[] args) {
        gaps();
        grout();
        setting();
        lost();
        house();
        settles();
        settlesByDepth();
        tilt();
        damage();
        readAndAlarm();
        lift();
        Check.end();
    }

    private static void gaps() {
        char[] kinds = {'c', 's', 'r', 'b'};
        int[] gaps = {120, 150, 110, 140};
        for (int i = 0; i < kinds.length; i++) {
            Boringhead x = new Boringhead();
            x.ground(0, 0, kinds[i]);
            Scenes.clay(x, 1);
            Check.same("gap in " + kinds[i], x.lost(0), gaps[i]);
            Check.same("lost with 100 of grout", x.grout(0, 100), gaps[i] - 100);
            int room = gaps[i] / 5;
            Check.same("lost with all that fits", x.grout(0, gaps[i] - 100 + room), 0);
            try {
                x.grout(0, 1);
                Check.tell("one more than fits went in, in " + kinds[i]);
            } catch (UnsupportedOperationException e) {
                Check.same("share in " + kinds[i], x.groutShare(), (float) (gaps[i] + room) / (float) gaps[i]);
            }
        }
    }

    private static void grout() {
        Boringhead x = new Boringhead();
        Scenes.clay(x, 3);
        Check.same("lost behind grout at ring 2", x.grout(2, 1), 119);
        Check.same("the clock stands", x.now(), 90);
        Check.same("another ring", x.lost(1), 120);
        Check.same("all that fits at once", x.grout(0, 144), 0);
        for (int ring : NONE) {
            Check.refused("grout at ring " + ring, INDEX, Scenes::threeRings, y -> y.grout(ring, 10));
            Check.refused("grout of 0 at ring " + ring, INDEX, Scenes::threeRings, y -> y.grout(ring, 0));
        }
        for (int amount : new int[] {0, 201, -5, Integer.MAX_VALUE}) {
            Check.refused("grout of " + amount, ARGUMENT, Scenes::threeRings, y -> y.grout(0, amount));
        }
        Check.refused("grout of 201 where nothing fits", ARGUMENT, y -> {
            Scenes.threeRings(y);
            y.grout(0, 144);
        }, y -> y.grout(0, 201));
        Check.refused("more than fits", UNSUPPORTED, Scenes::threeRings, y -> y.grout(0, 145));
        Check.refused("more than fits by far", UNSUPPORTED, Scenes::threeRings, y -> y.grout(0, 200));
        Check.refused("more than fits behind what there is", UNSUPPORTED, y -> {
            Scenes.threeRings(y);
            y.grout(0, 140);
        }, y -> y.grout(0, 5));
    }

    private static void setting() {
        Boringhead x = new Boringhead();
        Scenes.clay(x, 3);
        x.grout(0, 1);
        Scenes.waitUntil(x, 90 + 300);
        x.grout(0, 1);
        Scenes.waitUntil(x, 90 + 599);
        Check.same("grout a minute ahead of setting", x.grout(0, 1), 117);
        Scenes.waitUntil(x, 90 + 5000);
        Check.same("a ring without grout stays open", x.grout(1, 1), 119);
        Check.refused("grout that has set", UNSUPPORTED, y -> {
            Scenes.threeRings(y);
            y.grout(0, 1);
            Scenes.waitUntil(y, 90 + 300);
            y.grout(0, 1);
            Scenes.waitUntil(y, 90 + 600);
        }, y -> y.grout(0, 1));
    }

    private static void lost() {
        Boringhead x = new Boringhead();
        Scenes.clay(x, 3);
        Check.same("lost at first", x.lost(0), 120);
        x.grout(0, 119);
        Check.same("lost with 119", x.lost(0), 1);
        x.grout(0, 10);
        Check.same("lost with more than the gap", x.lost(0), 0);
        for (int ring : NONE) {
            Check.refused("lost at ring " + ring, INDEX, Scenes::threeRings, y -> y.lost(ring));
        }
    }

    private static void eightHouses(Boringhead x) {
        for (int i = 0; i < 8; i++) {
            x.house(i, 2 * i, i);
        }
    }

    private static void threeHouses(Boringhead x) {
        Scenes.threeRings(x);
        x.house(0, 2, 0);
        x.house(2, 40, 60);
        x.house(199, 199, 60);
    }

    private static void house() {
        Boringhead x = new Boringhead();
        Scenes.clay(x, 3);
        for (int i = 0; i < 8; i++) {
            Check.same("house", x.house(i, 199 - i, 60 - i), i);
        }
        int[][] wrong = {{-1, 3, 0}, {0, 200, 0}, {4, 3, 0}, {0, 0, -1}, {0, 0, 61}, {200, 200, 5},
            {Integer.MIN_VALUE, Integer.MAX_VALUE, 0}};
        for (int[] row : wrong) {
            Check.refused("house " + row[0] + ".." + row[1] + " at " + row[2], ARGUMENT, Scenes::fresh, y -> y.house(row[0], row[1], row[2]));
            Check.refused("such a house as the ninth", ARGUMENT, HouseTest::eightHouses, y -> y.house(row[0], row[1], row[2]));
        }
        Check.refused("the ninth house", STATE, HouseTest::eightHouses, y -> y.house(0, 0, 0));
    }

    private static void settles() {
        Boringhead x = new Boringhead();
        x.house(2, 9, 10);
        Check.same("without rings", x.settles(0, false), 0);
        x.ground(3, 5, 's');
        x.pressure(100);
        x.deliver(40);
        for (int i = 0; i < 5; i++) {
            x.advance(i % 2 == 0 ? 0 : 4);
        }
        Check.same("first end", x.settles(0, false), 9 + 9 + 9 + 11 + 11);
        Check.same("last end", x.settles(0, true), 8 + 8 + 8 + 11 + 11);
        x.grout(3, 100);
        Check.same("first end with grout", x.settles(0, false), 9 + 9 + 9 + 3 + 11);
        x.grout(4, 150);
        Check.same("first end with all grout", x.settles(0, false), 9 + 9 + 9 + 3);
        for (int house : NONE) {
            Check.refused("settlement of house " + house, INDEX, HouseTest::threeHouses, y -> y.settles(house, true));
        }
    }

    private static void settlesByDepth() {
        Boringhead x = new Boringhead();
        x.depth(0, 0, 10);
        x.depth(1, 1, 60);
        x.depth(2, 199, 10);
        x.water(1, 1, 0);
        x.pressure(70);
        x.deliver(2);
        x.advance(0);
        x.house(0, 0, 60);
        x.house(199, 199, 0);
        Check.same("depth 10, offset 60", x.settles(0, false), 120 * 100 / (10 * (100 + 3600)));
        Check.same("depth 10, 199 away", x.settles(1, true), 0);
        x.pressure(200);
        x.advance(4);
        Check.same("depth 10 and 60", x.settles(0, true), 120 * 3600 / (10 * (3600 + 1 + 3600)));
        Check.same("depth 60, 198 away", x.settles(1, false), 120 * 3600 / (10 * (3600 + 198 * 198)));
    }

    private static void tilt() {
        Boringhead x = new Boringhead();
        threeHouses(x);
        Check.same("tilt of ends alike", x.tilt(0), 0);
        Check.same("tilt of ends unlike", x.tilt(1), x.settles(1, false) - x.settles(1, true));
        x.lift(0, false, 7);
        Check.same("tilt with the first end lifted", x.tilt(0), 7);
        x.lift(0, true, 30);
        Check.same("tilt with both lifted", x.tilt(0), 23);
        for (int house : NONE) {
            Check.refused("tilt of house " + house, INDEX, HouseTest::threeHouses, y -> y.tilt(house));
        }
    }

    private static void damage() {
        int[] lifts = {0, 9, 10, 29, 30, 59, 60, 99, 100, 150};
        int[] classes = {0, 0, 1, 1, 2, 2, 3, 3, 4, 4};
        for (int i = 0; i < lifts.length; i++) {
            Boringhead x = new Boringhead();
            x.house(5, 5, 0);
            for (int left = lifts[i]; left > 0; left -= 50) {
                x.lift(0, i % 2 == 0, Math.min(left, 50));
            }
            Check.same("class by a tilt of " + lifts[i], x.damage(0), classes[i]);
        }
        for (int house : NONE) {
            Check.refused("class of house " + house, INDEX, HouseTest::threeHouses, y -> y.damage(house));
        }
    }

    private static void readAndAlarm() {
        Boringhead x = new Boringhead();
        threeHouses(x);
        Check.same("alarm without a reading", x.alarm(0), '-');
        Check.same("reading", x.read(0), 34);
        Check.same("alarm by it", x.alarm(0), 'y');
        x.lift(0, true, 20);
        Check.same("reading of the end that settles more", x.read(0), 34);
        x.lift(0, false, 50);
        Check.same("reading of the other one", x.read(0), 14);
        x.lift(0, true, 16);
        Check.same("alarm by the last reading", x.alarm(0), 'g');
        Check.same("reading below 0", x.read(0), -2);
        Check.same("alarm below 0", x.alarm(0), 'g');
        Check.same("alarm of another house", x.alarm(1), '-');
        alarmAt(19, 'g');
        alarmAt(20, 'y');
        alarmAt(49, 'y');
        alarmAt(50, 'r');
        for (int house : NONE) {
            Check.refused("reading of house " + house, INDEX, HouseTest::threeHouses, y -> y.read(house));
            Check.refused("alarm of house " + house, INDEX, HouseTest::threeHouses, y -> y.alarm(house));
        }
    }

    /** Five rings of sand settle by 74 in their midst. */
    private static void alarmAt(int reading, char alarm) {
        Boringhead x = new Boringhead();
        x.ground(0, 4, 's');
        Scenes.clay(x, 5);
        x.house(2, 2, 0);
        int settled = x.settles(0, false);
        Check.same("five rings of sand", settled, 14 + 14 + 15 + 14 + 14);
        for (int left = settled - reading; left > 0; left -= 50) {
            x.lift(0, false, Math.min(left, 50));
            x.lift(0, true, Math.min(left, 50));
        }
        Check.same("reading", x.read(0), reading);
        Check.same("alarm by " + reading, x.alarm(0), alarm);
    }

    private static void nearEnd(Boringhead x) {
        threeHouses(x);
        Scenes.waitUntil(x, 99984);
    }

    private static void lift() {
        Boringhead x = new Boringhead();
        threeHouses(x);
        Check.same("lift of the first end", x.lift(0, false, 1), 33);
        Check.same("the last end", x.settles(0, true), 34);
        Check.same("lift of the last end", x.lift(0, true, 50), -16);
        Check.same("lift again", x.lift(0, true, 50), -66);
        Check.same("clock", x.now(), 90 + 45);
        Check.same("soundness", x.isSound(), true);
        for (int house : NONE) {
            Check.refused("lift of house " + house, INDEX, HouseTest::threeHouses, y -> y.lift(house, true, 5));
            Check.refused("lift of house " + house + " by 0", INDEX, HouseTest::threeHouses, y -> y.lift(house, true, 0));
        }
        for (int amount : new int[] {0, 51, -1, Integer.MAX_VALUE}) {
            Check.refused("lift by " + amount, ARGUMENT, HouseTest::threeHouses, y -> y.lift(0, false, amount));
        }
        Boringhead y = new Boringhead();
        nearEnd(y);
        y.lift(0, true, 1);
        Check.same("clock at its end", y.now(), 99999);
        Check.refused("lift beyond the clock's end", STATE, z -> {
            nearEnd(z);
            z.pause(1, 'w', '-');
        }, z -> z.lift(0, true, 1));
        Check.refused("lift by 51 beyond the clock's end", ARGUMENT, z -> {
            nearEnd(z);
            z.pause(1, 'w', '-');
        }, z -> z.lift(0, true, 51));
    }
}
