import java.util.function.Consumer;

/** The last number or letter that is taken and the first one that is refused, with the ends of int. */
final class Edge {
    static final Class<IllegalArgumentException> ARGUMENT = IllegalArgumentException.class;
    static final Class<UnsupportedOperationException> UNSUPPORTED = UnsupportedOperationException.class;
    static final Class<IllegalStateException> STATE = IllegalStateException.class;
    static final Class<IndexOutOfBoundsException> INDEX = IndexOutOfBoundsException.class;
    static final Class<ArithmeticException> ARITHMETIC = ArithmeticException.class;

    private static final char LAST_LETTER = 1023;

    private Edge() {
    }

    /** A call with a number that is tried. */
    interface Numbered {
        void call(Boringhead x, int number);
    }

    /** A call with a letter that is tried. */
    interface Lettered {
        void call(Boringhead x, char letter);
    }

    /** The numbers from the least to the most are taken. */
    static void inside(Consumer<Boringhead> scene, int least, int most, Numbered call) {
        for (int number = least; number <= most; number++) {
            int tried = number;
            taken("with " + number, scene, x -> call.call(x, tried));
        }
    }

    /** What stands right below the least number and right above the most is refused, and so is what is far off. */
    static void outside(Class<? extends RuntimeException> type, Consumer<Boringhead> scene, int least, int most, Numbered call) {
        int[] numbers = {least - 1, most + 1, least - 2, most + 2, least - 256, most + 256, least - 65536, most + 65536,
            Integer.MIN_VALUE, Integer.MIN_VALUE + 1, Integer.MAX_VALUE - 1, Integer.MAX_VALUE};
        for (int number : numbers) {
            refused("with " + number, type, scene, x -> call.call(x, number));
        }
    }

    /** These letters are taken. */
    static void letters(Consumer<Boringhead> scene, String letters, Lettered call) {
        for (char letter : letters.toCharArray()) {
            taken("with " + letter, scene, x -> call.call(x, letter));
        }
    }

    /** All letters but these are refused. */
    static void otherLetters(Class<? extends RuntimeException> type, Consumer<Boringhead> scene, String letters, Lettered call) {
        for (char letter = 0; letter <= LAST_LETTER; letter++) {
            char tried = letter;
            if (letters.indexOf(letter) < 0) {
                Boringhead x = new Boringhead();
                scene.accept(x);
                Check.throwsIt("with letter " + (int) letter, type, x, y -> call.call(y, tried));
            }
        }
        for (char letter : new char[] {0, '?', 'C', 'x', 255, 256 + 'c', 32768, 65535}) {
            refused("with letter " + (int) letter, type, scene, x -> call.call(x, letter));
        }
    }

    static void taken(String what, Consumer<Boringhead> scene, Consumer<Boringhead> call) {
        Boringhead x = new Boringhead();
        scene.accept(x);
        try {
            call.accept(x);
        } catch (RuntimeException e) {
            Check.tell(what + " throws " + e);
        }
    }

    static void refused(String what, Class<? extends RuntimeException> type, Consumer<Boringhead> scene, Consumer<Boringhead> call) {
        Check.refused(what, type, scene, call);
    }

    /** A new object behind the calls of a scene. */
    static Boringhead made(Consumer<Boringhead> scene) {
        Boringhead x = new Boringhead();
        scene.accept(x);
        return x;
    }
}
