import java.lang.reflect.Field;
import java.util.List;

/**
 * Promise 49 again: no call makes an object unsound, so that a part of it is spoilt from outside here, and isSound has
 * to see it. It knows the names of the fields inside, and has to follow when they change.
 */
public final class SpoiltTest {
    public static void main(String[] args) throws ReflectiveOperationException {
        for (String side : new String[] {"offRight", "offUp"}) {
            spoil("built", 1, side, 1);
            spoil("built", 1, side, -1);
        }
        for (String side : new String[] {"headingRight", "headingUp", "offRight", "offUp"}) {
            spoil("course", -1, side, 1);
        }
        spoil("yard", -1, "inPit", 5);
        spoil("yard", -1, "away", -5);
        spoil("built", 0, "more", 1);
        spoil("built", 2, "more", -1);
        spoil("built", 0, "filled", 169);
        spoil("built", 2, "filled", 169);
        spoil("built", 2, "minutes", 1);
        spoil("clock", -1, "minute", 1);
        spoil("clock", -1, "forLifts", -15);
        spoil("clock", -1, "forChanges", 20);
        spoil("clock", -1, "forLorries", 5);
        fitting();
        alike();
        Check.end();
    }

    private static Boringhead scene() {
        Boringhead x = new Boringhead();
        Scenes.boulders(x);
        x.change(0);
        x.house(0, 0, 0);
        x.lift(0, true, 5);
        Scenes.waitUntil(x, 400);
        x.lorries(2);
        Check.same("sound as it is", x.isSound(), true);
        return x;
    }

    private static Object part(Boringhead x, String name, int ring) throws ReflectiveOperationException {
        Field field = Boringhead.class.getDeclaredField(name);
        field.setAccessible(true);
        Object part = field.get(x);
        return ring < 0 ? part : ((List<?>) part).get(ring);
    }

    private static void add(Object part, String name, int more) throws ReflectiveOperationException {
        Field field = part.getClass().getDeclaredField(name);
        field.setAccessible(true);
        field.setInt(part, field.getInt(part) + more);
    }

    private static void spoil(String name, int ring, String field, int more) throws ReflectiveOperationException {
        Boringhead x = scene();
        add(part(x, name, ring), field, more);
        Check.same("sound with " + field + " of " + name + " more by " + more, x.isSound(), false);
        add(part(x, name, ring), field, -more);
        Check.same("sound with it as it was", x.isSound(), true);
    }

    private static void fitting() throws ReflectiveOperationException {
        Boringhead x = scene();
        add(part(x, "built", 0), "filled", 168);
        Check.same("sound with all the grout that fits", x.isSound(), true);
    }

    /** The middle ring gets the rotation of both others, and jacks that push as much as it turns less. */
    private static void alike() throws ReflectiveOperationException {
        Boringhead x = scene();
        Object ring = part(x, "built", 1);
        add(ring, "turn", -4);
        add(ring, "pushUp", -20);
        Check.same("sound with rotations alike", x.isSound(), false);
        add(ring, "turn", 1);
        add(ring, "pushRight", -7);
        add(ring, "pushUp", 3);
        Check.same("sound with rotations unlike", x.isSound(), true);
    }
}
