import java.util.function.Supplier;

/** All that can be seen of an object, as one text, in some 330 calls; the object is spent by it. */
final class State {
    private static final int SEEN = 13;

    private final StringBuilder text = new StringBuilder();
    private final Boringhead x;

    private State(Boringhead x) {
        this.x = x;
    }

    static String of(Boringhead x) {
        State state = new State(x);
        state.sums();
        state.shield();
        state.rings();
        state.houses();
        state.places();
        state.spent();
        return state.text.toString();
    }

    private void add(String name, Supplier<Object> call) {
        text.append(name).append('=');
        try {
            text.append(call.get());
        } catch (RuntimeException e) {
            text.append(e.getClass().getSimpleName());
        }
        text.append(' ');
    }

    private void sums() {
        add("rings", x::rings);
        add("now", x::now);
        add("muck", x::muck);
        add("events", x::events);
        add("claimed", x::claimed);
        add("offRings", x::offRings);
        add("share", x::groutShare);
        add("mean", x::meanMinutes);
        add("checksum", x::checksum);
        add("isSound", x::isSound);
        for (char whose : "bkn".toCharArray()) {
            add("waited " + whose, () -> x.waited(whose));
        }
        for (char kind : "csrb".toCharArray()) {
            add("count " + kind, () -> x.count(kind));
        }
    }

    private void shield() {
        add("heading right", () -> x.heading(false));
        add("heading up", () -> x.heading(true));
        for (int i = 0; i < 8; i++) {
            int number = i;
            add("worn " + i, () -> x.worn(number));
            add("bars " + i, () -> x.bars(number));
        }
        for (int i = 1; i <= 3; i++) {
            int rings = i;
            add("plan " + i, () -> x.plan(rings));
            add("squares " + i, () -> x.squares(rings));
        }
    }

    private void rings() {
        for (int i = 0; i < Math.min(x.rings(), SEEN); i++) {
            int ring = i;
            add("rotation " + i, () -> x.rotation(ring));
            add("right " + i, () -> x.off(ring, false));
            add("up " + i, () -> x.off(ring, true));
            add("lost " + i, () -> x.lost(ring));
        }
    }

    private void houses() {
        for (int i = 0; i < 8; i++) {
            int house = i;
            add("first " + i, () -> x.settles(house, false));
            add("last " + i, () -> x.settles(house, true));
            add("alarm " + i, () -> x.alarm(house));
        }
    }

    private void places() {
        for (int i = 0; i < SEEN; i++) {
            int place = i;
            add("guess " + i, () -> x.guess(place));
            add("doubt " + i, () -> x.doubt(place));
            add("lower " + i, () -> x.lower(place));
            add("upper " + i, () -> x.upper(place));
        }
    }

    /** What only shows by changing it. */
    private void spent() {
        add("foam", () -> x.foam(false));
        add("pressure", () -> x.pressure(0));
        add("steer", () -> x.steer(0, 0));
        add("segments", () -> x.deliver(1));
        for (char cause : "gpcsmwh".toCharArray()) {
            add("place of " + cause, () -> x.first(cause));
        }
        for (int i = 0; i < SEEN; i++) {
            int place = i;
            add("reference " + i, () -> x.reference(place, place, 'c'));
            add("depth " + i, () -> x.depth(place, place, 10));
            add("water " + i, () -> x.water(place, place, 0));
        }
        for (int i = 0; i < 3; i++) {
            int ring = i;
            add("notice " + i, () -> x.notice(ring));
            add("grout " + i, () -> x.grout(ring, 1));
        }
        add("borehole", () -> x.bore(0, 'c'));
        add("house", () -> x.house(0, 0, 0));
    }
}
