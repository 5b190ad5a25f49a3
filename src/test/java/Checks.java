import java.util.function.IntToLongFunction;
import java.util.function.LongSupplier;

/** Counts and prints the calls whose answer is not the one that is due. */
final class Checks {
    static final Class<?> INDEX = IndexOutOfBoundsException.class;
    static final Class<?> ARGUMENT = IllegalArgumentException.class;
    static final Class<?> STATE = IllegalStateException.class;
    static final int LOW = Integer.MIN_VALUE;
    static final int HIGH = Integer.MAX_VALUE;

    private int wrong = 0;
    private int made = 0;
    private int sentences = 0;
    private int madeAhead = 0;
    private String sentence = "";

    /** What follows, up to the next sentence, tests this one of the document. */
    void sentence(String words) {
        endSentence();
        sentence = words;
        sentences++;
        madeAhead = made;
    }

    private void endSentence() {
        if (!sentence.isEmpty() && made == madeAhead) {
            wrong++;
            System.out.println("'" + sentence + "' has no test");
        }
    }

    void due(String call, long want, LongSupplier got) {
        told(call, Long.toString(want), outcome(got));
    }

    /** The exception's class must be the very one: a subclass would come from the machine. */
    void refuses(String call, Class<?> exception, LongSupplier got) {
        told(call, exception.getName(), outcome(got));
    }

    /** Each of the arguments by itself is refused. */
    void refusesEach(String call, Class<?> exception, IntToLongFunction got, int... arguments) {
        for (int argument : arguments) {
            refuses(call + " with " + argument, exception, () -> got.applyAsLong(argument));
        }
    }

    void told(String call, String want, String got) {
        made++;
        if (!want.equals(got)) {
            wrong++;
            String where = sentence.isEmpty() ? "" : " ('" + sentence + "')";
            System.out.println(call + " answered " + got + ", due is " + want + where);
        }
    }

    static String outcome(LongSupplier call) {
        try {
            return Long.toString(call.getAsLong());
        } catch (RuntimeException e) {
            return e.getClass().getName();
        }
    }

    void end() {
        endSentence();
        String read = sentences == 0 ? "" : sentences + " sentences, ";
        System.out.println(read + made + " answers, " + wrong + " not as due");
        if (wrong != 0 || made == 0) {
            System.exit(1);
        }
    }
}
