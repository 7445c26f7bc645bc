/** Promises 35 to 41: segments, muck, lorries, the clock, waiting and its causes. */
public final class StuffTest {
    private static final Class<IllegalArgumentException> ARGUMENT = IllegalArgumentException.class;
    private static final Class<UnsupportedOperationException> UNSUPPORTED = UnsupportedOperationException.class;
    private static final Class<IllegalStateException> STATE = IllegalStateException.class;

    public static void main(String[] args) {
        deliver();
        muck();
        lorries();
        lorryHours();
        now();
        pause();
        causes();
        first();
        waited();
        Check.end();
    }

    private static void deliver() {
        Boringhead x = new Boringhead();
        Check.same("one segment", x.deliver(1), 1);
        Check.same("all the room", x.deliver(39), 40);
        Boringhead y = new Boringhead();
        Scenes.clay(y, 3);
        Check.same("what three rings took", y.deliver(3), 40);
        for (int segments : new int[] {0, 41, -1, Integer.MAX_VALUE, Integer.MIN_VALUE}) {
            Check.refused("segments " + segments, ARGUMENT, Scenes::threeRings, z -> z.deliver(segments));
        }
        Check.refused("no room for all", UNSUPPORTED, Scenes::threeRings, z -> z.deliver(4));
        Check.refused("no room for any", UNSUPPORTED, z -> z.deliver(40), z -> z.deliver(1));
        Check.refused("41 without room", ARGUMENT, z -> z.deliver(40), z -> z.deliver(41));
    }

    private static void muck() {
        Boringhead x = new Boringhead();
        Check.same("muck at first", x.muck(), 0);
        Scenes.clay(x, 3);
        Check.same("muck of three rings", x.muck(), 195);
    }

    private static void lorries() {
        Boringhead x = new Boringhead();
        Scenes.clay(x, 3);
        Scenes.waitUntil(x, 360);
        Check.same("a lorry", x.lorries(1), 20);
        Check.same("clock then", x.now(), 365);
        Check.same("muck then", x.muck(), 175);
        Check.same("eight lorries", x.lorries(8), 160);
        Check.same("the last of it", x.lorries(100), 15);
        Check.same("only one went", x.now(), 365 + 40 + 5);
        Check.same("muck then", x.muck(), 0);
        Check.same("soundness then", x.isSound(), true);
        x.deliver(1);
        x.ground(3, 3, 's');
        x.advance(4);
        Check.same("muck for three lorries, none over", x.lorries(100), 60);
        Check.same("just three went", x.now(), 410 + 40 + 15);
        for (int many : new int[] {0, 101, -1, Integer.MAX_VALUE}) {
            Check.refused("lorries " + many, ARGUMENT, Scenes::threeRings, y -> y.lorries(many));
        }
        Check.refused("lorries for an empty pit", UNSUPPORTED, y -> Scenes.waitUntil(y, 700), y -> y.lorries(1));
        Check.refused("lorries for an empty pit at night", UNSUPPORTED, Scenes::fresh, y -> y.lorries(1));
    }

    private static void threeRingsAt(Boringhead x, int minute) {
        Scenes.threeRings(x);
        Scenes.waitUntil(x, minute);
    }

    private static void lorryHours() {
        int[] minutes = {360, 1319, 1440 + 360, 68 * 1440 + 600};
        for (int minute : minutes) {
            Boringhead x = new Boringhead();
            threeRingsAt(x, minute);
            Check.same("lorries at " + minute, x.lorries(100), 195);
            Check.same("clock then", x.now(), minute + 50);
        }
        int[] nights = {90, 359, 1320, 1439, 1440, 1440 + 359, 1440 + 1320};
        for (int minute : nights) {
            Check.refused("lorries at " + minute, UNSUPPORTED, y -> threeRingsAt(y, minute), y -> y.lorries(1));
        }
        Boringhead x = new Boringhead();
        threeRingsAt(x, 99949);
        Check.same("lorries at the clock's end", x.lorries(100), 195);
        Check.same("clock then", x.now(), 99999);
        Check.refused("lorries beyond the clock's end", STATE, y -> threeRingsAt(y, 99950), y -> y.lorries(10));
        Check.refused("empty pit and the clock's end", UNSUPPORTED, y -> Scenes.waitUntil(y, 99999), y -> y.lorries(10));
    }

    private static void now() {
        Boringhead x = new Boringhead();
        Scenes.clay(x, 2);
        Check.same("clock of rings", x.now(), 60);
        x.pause(7, 'g', '-');
        Check.same("clock of a wait", x.now(), 67);
        x.change(0);
        Check.same("clock of a change", x.now(), 87);
        x.house(0, 0, 0);
        x.lift(0, false, 1);
        Check.same("clock of a lift", x.now(), 102);
        Scenes.waitUntil(x, 400);
        x.lorries(2);
        Check.same("clock of lorries", x.now(), 410);
        x.deliver(1);
        x.read(0);
        x.grout(0, 5);
        x.bore(9, 'c');
        x.first('w');
        Check.same("clock of what takes no time", x.now(), 410);
    }

    private static void pause() {
        Boringhead x = new Boringhead();
        Check.same("a wait of 1", x.pause(1, 'g', '-'), 1);
        Check.same("a wait of a day", x.pause(1440, 'h', 'g'), 1441);
        for (int minutes : new int[] {0, 1441, -1, Integer.MAX_VALUE}) {
            Check.refused("a wait of " + minutes, ARGUMENT, Scenes::threeRings, y -> y.pause(minutes, 'g', '-'));
        }
        for (char cause : new char[] {'-', 'x', 'G', 'k', 0, 'g' + 256}) {
            Check.refused("a wait for " + (int) cause, ARGUMENT, Scenes::threeRings, y -> y.pause(5, cause, '-'));
            Check.refused("a wait for it and g", ARGUMENT, Scenes::threeRings, y -> y.pause(5, cause, 'g'));
            if (cause != '-') {
                Check.refused("a wait for g and it", ARGUMENT, Scenes::threeRings, y -> y.pause(5, 'g', cause));
            }
        }
        for (char cause : "gpcsmwh".toCharArray()) {
            Check.refused("a wait for " + cause + " twice", ARGUMENT, Scenes::fresh, y -> y.pause(5, cause, cause));
        }
        Boringhead y = new Boringhead();
        Scenes.waitUntil(y, 98559);
        Check.same("a wait up to the clock's end", y.pause(1440, 's', '-'), 99999);
        Check.refused("a wait beyond the clock's end", STATE, z -> Scenes.waitUntil(z, 98560), z -> z.pause(1440, 's', '-'));
        Check.refused("a wait of 1 beyond it", STATE, z -> Scenes.waitUntil(z, 99999), z -> z.pause(1, 's', '-'));
        Check.refused("a wrong wait beyond it", ARGUMENT, z -> Scenes.waitUntil(z, 99999), z -> z.pause(1, 's', 's'));
    }

    private static void is(String what, Boringhead x, int builder, int client, int nobody) {
        Check.same(what + ": the builder's", x.waited('b'), builder);
        Check.same(what + ": the client's", x.waited('k'), client);
        Check.same(what + ": nobody's", x.waited('n'), nobody);
    }

    private static void causes() {
        String all = "gpcsmwh";
        String owners = "kbbbbnk";
        for (int i = 0; i < 7; i++) {
            for (int j = 0; j < 7; j++) {
                if (i == j) {
                    continue;
                }
                Boringhead x = new Boringhead();
                x.pause(10, all.charAt(i), all.charAt(j));
                char owner = owners.charAt(Math.min(i, j));
                is("" + all.charAt(i) + all.charAt(j), x, owner == 'b' ? 10 : 0, owner == 'k' ? 10 : 0, owner == 'n' ? 10 : 0);
            }
            Boringhead x = new Boringhead();
            x.pause(10, all.charAt(i), '-');
            char owner = owners.charAt(i);
            is("" + all.charAt(i), x, owner == 'b' ? 10 : 0, owner == 'k' ? 10 : 0, owner == 'n' ? 10 : 0);
        }
    }

    private static void first() {
        Boringhead x = new Boringhead();
        Check.same("first h", x.first('h'), 6);
        Check.same("first h again", x.first('h'), 0);
        Check.same("first c", x.first('c'), 3);
        Check.same("first w", x.first('w'), 6);
        Check.same("first s", x.first('s'), 5);
        Check.same("first g", x.first('g'), 4);
        Check.same("first p", x.first('p'), 5);
        Check.same("first m", x.first('m'), 6);
        String order = "mpgswch";
        for (int i = 6; i >= 0; i--) {
            Check.same("place of " + order.charAt(i), x.first(order.charAt(i)), 6);
        }
        for (char cause : new char[] {'x', '-', 'b', 0, 65535}) {
            Check.refused("first of " + (int) cause, ARGUMENT, Scenes::fresh, y -> y.first(cause));
        }
    }

    private static void waited() {
        Boringhead x = new Boringhead();
        is("at first", x, 0, 0, 0);
        x.pause(10, 'h', 'w');
        is("w ahead of h", x, 0, 0, 10);
        x.first('h');
        is("a wait keeps its cause", x, 0, 0, 10);
        x.pause(20, 'w', 'h');
        is("h ahead of w", x, 0, 20, 10);
        x.first('m');
        x.pause(30, 'h', 'm');
        is("m ahead of h", x, 30, 20, 10);
        x.pause(40, 's', 'p');
        is("p ahead of s", x, 70, 20, 10);
        for (char whose : new char[] {'x', '-', 'g', 'B', 0, 65535}) {
            Check.refused("waits of " + (int) whose, ARGUMENT, Scenes::threeRings, y -> y.waited(whose));
        }
    }
}
