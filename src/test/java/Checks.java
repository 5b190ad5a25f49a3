import java.util.function.LongSupplier;

/** Counts and prints the calls whose answer is not the one that is due. */
final class Checks {
    static final Class<?> INDEX = IndexOutOfBoundsException.class;
    static final Class<?> ARGUMENT = IllegalArgumentException.class;
    static final Class<?> STATE = IllegalStateException.class;

    private int wrong = 0;
    private int made = 0;

    void due(String call, long want, LongSupplier got) {
        told(call, Long.toString(want), outcome(got));
    }

    /** The exception's class must be the very one: a subclass would come from the machine. */
    void refuses(String call, Class<?> exception, LongSupplier got) {
        told(call, exception.getName(), outcome(got));
    }

    void told(String call, String want, String got) {
        made++;
        if (!want.equals(got)) {
            wrong++;
            System.out.println(call + " answered " + got + ", due is " + want);
        }
    }

    static String outcome(LongSupplier call) {
        try {
            return Long.toString(call.getAsLong());
        } catch (RuntimeException e) {
            return e.getClass().getName();
        }
    }

    void end() {
        System.out.println(made + " answers, " + wrong + " not as due");
        if (wrong != 0 || made == 0) {
            System.exit(1);
        }
    }
}
