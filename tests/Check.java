import java.util.NoSuchElementException;
import java.util.function.Consumer;
import java.util.function.Supplier;

/** Compares answers with those that are due, prints the ones that are not, and counts them. */
final class Check {
    static final Class<?> BOUNDS = IndexOutOfBoundsException.class;
    static final Class<?> ARGUMENT = IllegalArgumentException.class;
    static final Class<?> STATE = IllegalStateException.class;
    static final Class<?> ELEMENT = NoSuchElementException.class;
    static final Class<?> UNSUPPORTED = UnsupportedOperationException.class;
    static final Class<?> ARITHMETIC = ArithmeticException.class;

    private static final String NOTHING = "nothing thrown";

    private final String test;
    private int asked;
    private int wrong;

    Check(String test) {
        this.test = test;
    }

    void due(String call, Object got, Object want) {
        asked++;
        if (!got.equals(want)) {
            wrong++;
            System.out.println(test + ": " + call + " answered " + got + ", due is " + want);
        }
    }

    /** The call throws just this kind of exception, and the house then answers everything as one that was not asked. */
    void refused(String call, Class<?> kind, Supplier<Placecard> build, Consumer<Placecard> run) {
        for (int part = 0; part < Probe.PARTS; part++) {
            Placecard house = build.get();
            due(call, outcomeOf(() -> run.accept(house)), kind.getName());
            due("the house after " + call, Probe.part(part, house), Probe.part(part, build.get()));
        }
    }

    /** The call throws nothing. */
    void accepted(String call, Supplier<Placecard> build, Consumer<Placecard> run) {
        Placecard house = build.get();
        due(call, outcomeOf(() -> run.accept(house)), NOTHING);
    }

    void refused(String call, Class<?> kind, Runnable run) {
        due(call, outcomeOf(run), kind.getName());
    }

    private static String outcomeOf(Runnable run) {
        try {
            run.run();
            return NOTHING;
        } catch (RuntimeException e) {
            return e.getClass().getName() + whoElseThrew(e);
        }
    }

    /** Nothing, if the program's own throw threw it; else a text that says so, since the machine must never throw. */
    static String whoElseThrew(RuntimeException e) {
        StackTraceElement[] trace = e.getStackTrace();
        boolean isOwn = trace.length > 0 && trace[0].getClassName().equals("Placecard") && e.getMessage() != null;
        return isOwn ? "" : " thrown by the machine in " + (trace.length > 0 ? trace[0] : "a hidden place");
    }

    void end() {
        System.out.println(test + ": " + asked + " answers looked at, " + wrong + " wrong");
        if (wrong != 0) {
            System.exit(1);
        }
    }
}
