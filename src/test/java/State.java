import java.util.function.Supplier;

/** All that can be seen of an object, as several texts; one object is spent by each, in at most some 350 calls. */
final class State {
    static final int VIEWS = 14;

    private static final int SEEN = 13;
    private static final int PLACES = 200;

    private final StringBuilder text = new StringBuilder();
    private final Boringhead x;

    private State(Boringhead x) {
        this.x = x;
    }

    static String of(Boringhead x, int view) {
        State state = new State(x);
        switch (view) {
            case 0 -> state.answers();
            case 1 -> state.places("lower", x::lower);
            case 2 -> state.places("upper", x::upper);
            case 3 -> state.places("guess", x::guess);
            case 4 -> state.places("doubt", x::doubt);
            case 5 -> state.places("reference c", place -> x.reference(place, place, 'c'));
            case 6 -> state.places("reference s", place -> x.reference(place, place, 's'));
            case 7 -> state.places("reference r", place -> x.reference(place, place, 'r'));
            case 8 -> state.places("depth", place -> x.depth(place, place, 33));
            case 9 -> state.places("water", place -> x.water(place, place, 3));
            case 10 -> state.drivenOn();
            case 11 -> state.later(0);
            case 12 -> state.later(600);
            default -> state.later(4320);
        }
        return state.text.toString();
    }

    private interface Place {
        Object answer(int place);
    }

    private void add(String name, Supplier<Object> call) {
        text.append(name).append('=');
        try {
            text.append(call.get());
        } catch (RuntimeException e) {
            text.append(e.getClass().getSimpleName());
        }
        text.append(' ');
    }

    private void places(String name, Place call) {
        for (int i = 0; i < PLACES; i++) {
            int place = i;
            add(name + " " + i, () -> call.answer(place));
        }
    }

    private void answers() {
        sums();
        shield();
        rings();
        houses();
        spent();
    }

    private void sums() {
        add("rings", x::rings);
        add("now", x::now);
        add("muck", x::muck);
        add("events", x::events);
        add("claimed", x::claimed);
        add("offRings", x::offRings);
        add("share", x::groutShare);
        add("mean", x::meanMinutes);
        add("checksum", x::checksum);
        add("isSound", x::isSound);
        for (char whose : "bkn".toCharArray()) {
            add("waited " + whose, () -> x.waited(whose));
        }
        for (char kind : "csrb".toCharArray()) {
            add("count " + kind, () -> x.count(kind));
        }
    }

    private void shield() {
        add("heading right", () -> x.heading(false));
        add("heading up", () -> x.heading(true));
        for (int i = 0; i < 8; i++) {
            int number = i;
            add("worn " + i, () -> x.worn(number));
            add("bars " + i, () -> x.bars(number));
        }
        for (int i = 1; i <= 3; i++) {
            int rings = i;
            add("plan " + i, () -> x.plan(rings));
            add("squares " + i, () -> x.squares(rings));
        }
    }

    /** The first rings one by one; the checksum tells of the others. */
    private void rings() {
        for (int i = 0; i < Math.min(x.rings(), SEEN); i++) {
            int ring = i;
            add("rotation " + i, () -> x.rotation(ring));
            add("right " + i, () -> x.off(ring, false));
            add("up " + i, () -> x.off(ring, true));
            add("lost " + i, () -> x.lost(ring));
        }
    }

    private void houses() {
        for (int i = 0; i < 8; i++) {
            int house = i;
            add("first " + i, () -> x.settles(house, false));
            add("last " + i, () -> x.settles(house, true));
            add("tilt " + i, () -> x.tilt(house));
            add("damage " + i, () -> x.damage(house));
            add("alarm " + i, () -> x.alarm(house));
        }
    }

    /** What only shows by changing it. */
    private void spent() {
        add("foam", () -> x.foam(false));
        add("pressure", () -> x.pressure(0));
        add("steer", () -> x.steer(0, 0));
        for (int segments = 40; segments > 0; segments--) {
            int many = segments;
            add("segments " + segments, () -> x.deliver(many));
        }
        for (char cause : "gpcsmwh".toCharArray()) {
            add("place of " + cause, () -> x.first(cause));
        }
        for (int i = 0; i < 8; i++) {
            int number = i;
            add("reading " + i, () -> x.read(number));
            add("change " + i, () -> x.change(number));
        }
        add("borehole", () -> x.bore(0, 'c'));
        add("house", () -> x.house(0, 0, 0));
    }

    /** The rings ahead show how the line turns there, the jacks, the foam and the ground. */
    private void drivenOn() {
        int end = Math.min(x.rings() + 20, 120);
        int rings = x.rings();
        for (int step = 0; step < 60 && rings < end; step++) {
            int ahead = rings;
            add("on", () -> on(x.bars(ahead % 2), ahead));
            rings = x.rings();
        }
        add("heading right", () -> x.heading(false));
        add("heading up", () -> x.heading(true));
        add("checksum", x::checksum);
        add("events", x::events);
        add("muck", x::muck);
        add("worn 0", () -> x.worn(0));
        add("worn 7", () -> x.worn(7));
    }

    private Object on(char bar, int rings) {
        return switch (bar) {
            case 'p' -> x.pressure((x.lower(rings) + x.upper(rings)) / 2);
            case 'c' -> x.change(0) + x.change(1) + x.change(2) + x.change(7);
            case 's' -> x.deliver(40);
            case 'm' -> emptied(x.now() % 1440);
            case 'j' -> x.advance((rings + 1) % 2);
            case 'a' -> x.lift(0, true, 50);
            default -> x.advance(rings % 2);
        };
    }

    private int emptied(int minute) {
        if (minute >= 360 && minute < 1320) {
            return x.lorries(100);
        }
        return x.pause(minute < 360 ? 360 - minute : 1800 - minute, 'w', '-');
    }

    /** Behind a wait: grout that has set or not, notices in time or late, lorries, what was waited. */
    private void later(int minutes) {
        for (int left = minutes; left > 0; left -= 1440) {
            int wait = Math.min(left, 1440);
            add("wait", () -> x.pause(wait, 'h', 'w'));
        }
        for (int i = 0; i < x.rings(); i++) {
            int ring = i;
            add("grout " + i, () -> x.grout(ring, 1));
            add("notice " + i, () -> x.notice(ring));
        }
        add("claimed", x::claimed);
        add("client's", () -> x.waited('k'));
        add("nobody's", () -> x.waited('n'));
        add("lorries", () -> x.lorries(100));
        add("now", x::now);
        add("isSound", x::isSound);
    }
}
