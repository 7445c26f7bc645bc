/** Promises 42 to 45: events, notices, what is claimed, and the kinds of ground met. */
public final class ContractTest {
    private static final Class<IllegalArgumentException> ARGUMENT = IllegalArgumentException.class;
    private static final Class<UnsupportedOperationException> UNSUPPORTED = UnsupportedOperationException.class;
    private static final Class<IndexOutOfBoundsException> INDEX = IndexOutOfBoundsException.class;

    public static void main(String[] args) {
        eventsOfEachPair();
        eventsByTheTable();
        notice();
        late();
        claimed();
        count();
        Check.end();
    }

    private static void eventsOfEachPair() {
        String kinds = "csrb";
        int[] minutes = {30, 40, 90, 70};
        for (int i = 0; i < 4; i++) {
            for (int j = 0; j < 4; j++) {
                Boringhead x = new Boringhead();
                x.ground(0, 0, kinds.charAt(i));
                x.reference(0, 0, kinds.charAt(j));
                Scenes.clay(x, 1);
                boolean isEvent = minutes[i] > minutes[j];
                String name = kinds.charAt(i) + " met, " + kinds.charAt(j) + " by the reference";
                Check.same(name, x.events(), isEvent ? 1 : 0);
                if (isEvent) {
                    Check.same(name + ": notice", x.notice(0), true);
                }
                Check.same(name + ": claimed", x.claimed(), isEvent ? minutes[i] - minutes[j] : 0);
            }
        }
    }

    private static void eventsByTheTable() {
        Boringhead x = new Boringhead();
        x.ground(12, 12, 's');
        Scenes.clay(x, 12);
        Check.same("events ahead of it", x.events(), 0);
        Check.same("minutes of the 13th ring", x.advance(0), 39);
        Check.same("events", x.events(), 1);
        x.notice(12);
        Check.same("its minutes by the table", x.claimed(), 10);
    }

    private static void notice() {
        Boringhead x = new Boringhead();
        Scenes.boulders(x);
        Check.same("events", x.events(), 3);
        Check.same("notice", x.notice(1), true);
        Check.same("events then", x.events(), 3);
        for (int ring : new int[] {-1, 3, Integer.MAX_VALUE, Integer.MIN_VALUE}) {
            Check.refused("notice of ring " + ring, INDEX, Scenes::boulders, y -> y.notice(ring));
        }
        Check.refused("notice without an event", UNSUPPORTED, Scenes::threeRings, y -> y.notice(0));
        Check.refused("a second notice", UNSUPPORTED, y -> {
            Scenes.boulders(y);
            y.notice(1);
        }, y -> y.notice(1));
        Check.refused("a second notice behind a late one", UNSUPPORTED, y -> {
            Scenes.boulders(y);
            Scenes.waitUntil(y, 9000);
            y.notice(1);
        }, y -> y.notice(1));
    }

    private static void late() {
        Boringhead x = new Boringhead();
        Scenes.boulders(x);
        Scenes.waitUntil(x, 140 + 4320);
        Check.same("notice at 4390", x.notice(0), false);
        Check.same("notice at 4320", x.notice(1), true);
        Check.same("notice at 4250", x.notice(2), true);
        Check.same("claimed", x.claimed(), 80);
        Boringhead y = new Boringhead();
        Scenes.boulders(y);
        Scenes.waitUntil(y, 140 + 4321);
        Check.same("notice at 4321", y.notice(1), false);
        Check.same("nothing claimed", y.claimed(), 0);
        Check.same("soundness", y.isSound(), true);
    }

    private static void claimed() {
        Boringhead x = new Boringhead();
        Check.same("claimed at first", x.claimed(), 0);
        Scenes.boulders(x);
        Check.same("claimed without notices", x.claimed(), 0);
        x.notice(2);
        Check.same("claimed with one", x.claimed(), 40);
        x.notice(0);
        Check.same("claimed with two", x.claimed(), 80);
        Check.same("no waits by it", x.waited('k'), 0);
    }

    private static void count() {
        Boringhead x = new Boringhead();
        Check.same("clay without rings", x.count('c'), 0);
        x.ground(1, 1, 's');
        x.ground(3, 4, 'r');
        x.ground(5, 7, 'b');
        x.ground(8, 9, 's');
        Scenes.clay(x, 6);
        Check.same("clay", x.count('c'), 2);
        Check.same("sand", x.count('s'), 1);
        Check.same("rock", x.count('r'), 2);
        Check.same("boulders", x.count('b'), 1);
        for (char kind : new char[] {'x', '?', 'C', 0, 65535}) {
            Check.refused("count of " + (int) kind, ARGUMENT, Scenes::threeRings, y -> y.count(kind));
        }
    }
}
