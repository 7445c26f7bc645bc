import java.lang.reflect.InvocationTargetException;
import java.lang.reflect.Method;
import java.util.ArrayList;
import java.util.Arrays;
import java.util.List;
import java.util.Map;
import java.util.TreeMap;

/** Runs of 512 calls, likely and unlikely ones, each answer compared with that of the model. */
public final class LongRunsTest {
    private static final int RUNS = 240;
    // With a checksum behind each twentieth call, 512 in all.
    private static final int CALLS = 488;

    private final List<Method> methods = new ArrayList<>();
    private final Map<String, Integer> answered = new TreeMap<>();
    private long seed;
    private Boringhead real;
    private Model model;
    private int most = 0;

    public static void main(String[] args) throws ReflectiveOperationException {
        LongRunsTest test = new LongRunsTest();
        for (Method method : Boringhead.class.getDeclaredMethods()) {
            if (java.lang.reflect.Modifier.isPublic(method.getModifiers())) {
                test.methods.add(method);
            }
        }
        test.methods.sort((a, b) -> a.getName().compareTo(b.getName()));
        for (int run = 0; run < RUNS; run++) {
            test.run(run);
        }
        test.tellWhatRan();
        Check.end();
    }

    private void run(int number) throws ReflectiveOperationException {
        seed = 1000003L * number + 17;
        real = new Boringhead();
        model = new Model();
        // A quarter of the runs is driven by likely calls alone, so that many rings are built; another one begins
        // near the clock's end, and another one with many boreholes.
        boolean isDriven = number % 4 == 0;
        int begun = number % 4 == 1 ? wait(number) : number % 4 == 2 ? bore(number) : 0;
        for (int call = begun; call < CALLS; call++) {
            if (isDriven || below(3) > 0) {
                likely(number, call);
            } else {
                Method method = methods.get(below(methods.size()));
                compare(number, call, method.getName(), arguments(method, below(8) == 0));
            }
        }
        most = Math.max(most, model.rings());
    }

    private int wait(int number) throws ReflectiveOperationException {
        for (int call = 0; call < 69; call++) {
            compare(number, call, "pause", 1440 - below(3), "gpcsmwh".charAt(below(7)), '-');
        }
        return 69;
    }

    private int bore(int number) throws ReflectiveOperationException {
        for (int call = 0; call < 19; call++) {
            compare(number, call, "bore", below(150), "csrb".charAt(below(4)));
        }
        return 19;
    }

    private int below(int bound) {
        seed = seed * 6364136223846793005L + 1442695040888963407L;
        return (int) ((seed >>> 33) % bound);
    }

    /** Does what the next ring wants, or something at the rings and houses that there are. */
    private void likely(int number, int call) throws ReflectiveOperationException {
        int next = Math.min(model.rings(), 119);
        int rotation = below(4) == 0 ? below(8) : model.plan(1 + below(3));
        int roll = below(20);
        if (roll == 0) {
            compare(number, call, "house", Math.max(0, next - below(20)), Math.min(199, next + below(20)), below(61));
        } else if (roll == 1 && next > 0) {
            compare(number, call, "grout", next - 1 - below(Math.min(next, 3)), 1 + below(90));
        } else if (roll == 2) {
            compare(number, call, "read", below(8));
        } else if (roll == 3 && next > 0) {
            compare(number, call, "notice", below(next));
        } else if (roll == 4) {
            compare(number, call, "ground", next, Math.min(199, next + below(9)), "csrb".charAt(below(4)));
        } else {
            unbar(number, call, rotation, next);
        }
    }

    private void unbar(int number, int call, int rotation, int next) throws ReflectiveOperationException {
        switch (model.bars(rotation)) {
            case 'p' -> compare(number, call, "pressure", (model.lower(next) + model.upper(next)) / 2);
            case 'c' -> compare(number, call, "change", wornOut());
            case 's' -> compare(number, call, "deliver", 1 + below(40));
            case 'm' -> emptyPit(number, call);
            case 'a' -> compare(number, call, "lift", below(8), below(2) == 0, 50);
            default -> compare(number, call, "advance", rotation);
        }
    }

    private int wornOut() {
        int cutter = 0;
        while (cutter < 7 && model.worn(cutter) < 100) {
            cutter++;
        }
        return cutter;
    }

    private void emptyPit(int number, int call) throws ReflectiveOperationException {
        int minute = model.now() % 1440;
        if (minute >= 360 && minute < 1320) {
            compare(number, call, "lorries", 60 + below(41));
        } else {
            compare(number, call, "pause", minute < 360 ? 360 - minute : 1800 - minute, "gpcsmwh".charAt(below(7)), '-');
        }
    }

    private Object[] arguments(Method method, boolean isWild) {
        Class<?>[] types = method.getParameterTypes();
        Object[] arguments = new Object[types.length];
        for (int i = 0; i < types.length; i++) {
            if (types[i] == boolean.class) {
                arguments[i] = below(2) == 0;
            } else if (types[i] == char.class) {
                arguments[i] = isWild ? (char) below(65536) : "csrbgpcsmwhkn-".charAt(below(14));
            } else {
                arguments[i] = isWild ? (Object) wild() : (Object) tame(method.getName(), i);
            }
        }
        return arguments;
    }

    private int wild() {
        int[] edges = {Integer.MIN_VALUE, Integer.MAX_VALUE, -1, 0, 199, 200, 120, 60, 61, 2001};
        int roll = below(edges.length + 2);
        return roll < edges.length ? edges[roll] : below(1 << 30) * (roll % 2 == 0 ? 4 : -4);
    }

    private int tame(String name, int index) {
        int place = Math.min(199, Math.max(0, model.rings() - 5 + below(20)));
        return switch (name) {
            case "ground", "reference" -> place + 3 * index;
            case "depth" -> index == 2 ? 9 + below(53) : place + 3 * index;
            case "water" -> index == 2 ? below(42) : place + 3 * index;
            case "bend" -> index < 2 ? place + 3 * index : below(43) - 21;
            case "bore", "guess", "doubt", "lower", "upper" -> place;
            case "house" -> index == 2 ? below(62) : place + 5 * index;
            case "pressure" -> below(1000);
            case "steer" -> below(11) - 5;
            case "off", "rotation", "lost", "notice" -> below(model.rings() + 1);
            case "grout" -> index == 0 ? below(model.rings() + 1) : below(202);
            case "plan", "squares" -> below(5);
            case "deliver" -> below(42);
            case "pause" -> below(8) == 0 ? below(1442) : below(90);
            case "lift" -> index == 0 ? below(9) : below(52);
            default -> below(9);
        };
    }

    private void compare(int run, int call, String name, Object... arguments) throws ReflectiveOperationException {
        Object want = answer(model, name, arguments);
        Object got = answer(real, name, arguments);
        answered.merge(name + (want instanceof Class<?> kind ? " " + kind.getSimpleName() : ""), 1, Integer::sum);
        String told = "run " + run + ", call " + call + ": " + name + Arrays.toString(arguments);
        Check.same(told, String.valueOf(got), String.valueOf(want));
        if (call % 20 == 19) {
            Check.same(told + ", the checksum then", real.checksum(), model.checksum());
        }
    }

    private static Object answer(Object on, String name, Object[] arguments) throws ReflectiveOperationException {
        for (Method method : on.getClass().getDeclaredMethods()) {
            if (method.getName().equals(name) && java.lang.reflect.Modifier.isPublic(method.getModifiers())) {
                try {
                    return method.invoke(on, arguments);
                } catch (InvocationTargetException e) {
                    Check.same("thrown by a throw of its own", on instanceof Model || Check.isOwn(e.getCause()), true);
                    return e.getCause().getClass();
                }
            }
        }
        throw new NoSuchMethodException(name);
    }

    private void tellWhatRan() {
        if (most < 120) {
            Check.tell("no run built all rings; the longest built " + most);
        }
        for (Method method : methods) {
            if (!answered.containsKey(method.getName())) {
                Check.tell(method.getName() + " never answered");
            }
            for (Class<?> type : method.getExceptionTypes()) {
                String row = method.getName() + " " + type.getSimpleName();
                if (!answered.containsKey(row)) {
                    Check.tell("never seen: " + row);
                }
            }
        }
    }
}
