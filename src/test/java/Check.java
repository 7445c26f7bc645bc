import java.util.function.Consumer;

/** What every test says of an answer, and of a call that is refused. */
final class Check {
    private static int wrong = 0;
    private static String tested = "";

    private Check() {
    }

    static void same(String what, long got, long want) {
        if (got != want) {
            tell(what + " answered " + got + ", due is " + want);
        }
    }

    static void same(String what, double got, double want) {
        if (got != want) {
            tell(what + " answered " + got + ", due is " + want);
        }
    }

    static void same(String what, char got, char want) {
        if (got != want) {
            tell(what + " answered '" + got + "', due is '" + want + "'");
        }
    }

    static void same(String what, boolean got, boolean want) {
        if (got != want) {
            tell(what + " answered " + got + ", due is " + want);
        }
    }

    static void same(String what, String got, String want) {
        if (!got.equals(want)) {
            tell(what + " answered\n  " + got + "\ndue is\n  " + want);
        }
    }

    /** The call throws just that exception, and leaves the object as one that never met the call, in every view. */
    static void refused(String what, Class<? extends RuntimeException> want, Consumer<Boringhead> scene, Consumer<Boringhead> call) {
        for (int view = 0; view < State.VIEWS; view++) {
            Boringhead met = new Boringhead();
            Boringhead spared = new Boringhead();
            scene.accept(met);
            scene.accept(spared);
            throwsIt(what, want, met, call);
            same(what + " leaves", State.of(met, view), State.of(spared, view));
        }
    }

    static void throwsIt(String what, Class<? extends RuntimeException> want, Boringhead x, Consumer<Boringhead> call) {
        String thrown = "nothing";
        try {
            call.accept(x);
        } catch (RuntimeException e) {
            thrown = e.getClass().getSimpleName();
            same(what + ": the class throws it itself", isOwn(e), true);
        }
        same(what + " throws", thrown, want.getSimpleName());
    }

    /** Whether a throw statement of the class threw it, not the library, nor the machine, whose own ones tell more. */
    static boolean isOwn(Throwable thrown) {
        StackTraceElement[] trace = thrown.getStackTrace();
        return trace.length > 0 && trace[0].getClassName().startsWith("Boringhead")
                && thrown.getClass() != ArrayIndexOutOfBoundsException.class;
    }

    /** The sentence of the document that is tested now; what is wrong is told with it. */
    static void begin(String sentence) {
        tested = sentence;
    }

    static void tell(String text) {
        wrong++;
        System.out.println((tested.isEmpty() ? "" : "[" + tested + "] ") + text);
    }

    static void end() {
        System.out.println(wrong == 0 ? "all is as due" : wrong + " answers are not as due");
        if (wrong > 0) {
            System.exit(1);
        }
    }
}
