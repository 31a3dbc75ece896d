import java.util.Objects;
import java.util.function.Function;
import java.util.function.Supplier;

/** Counts what is wrong and ends with exit code 1 if anything was. */
final class Check {
    static final String INDEX = "throws.IndexOutOfBoundsException";
    static final String ARGUMENT = "throws.IllegalArgumentException";
    static final String STATE = "throws.IllegalStateException";

    private static int wrong = 0;
    private static int done = 0;

    private Check() {
    }

    /** What a call answers, or "throws." and the name of what it throws. */
    static Object answer(Supplier<Object> call) {
        try {
            return call.get();
        } catch (RuntimeException thrown) {
            return "throws." + thrown.getClass().getSimpleName();
        }
    }

    static void due(String call, Object got, Object want) {
        done++;
        if (!Objects.equals(got, want)) {
            wrong++;
            System.out.println(call + " answered " + got + ", due is " + want);
        }
    }

    static void due(String call, Supplier<Object> got, Object want) {
        due(call, answer(got), want);
    }

    /** The call throws that, and leaves all answers of the object as they were. */
    static void refuses(Diarycold x, String call, Supplier<Object> got, String want) {
        long before = x.digest();
        due(call, got, want);
        due("digest() after " + call, x.digest(), before);
    }

    /** The same of archives made in one way; by all that can be asked nothing is changed. */
    static void refuses(Supplier<Diarycold> maker, String call, Function<Diarycold, Object> got, String want) {
        due(call, () -> got.apply(maker.get()), want);
        Supplier<Diarycold> refused = () -> {
            Diarycold x = maker.get();
            answer(() -> got.apply(x));
            return x;
        };
        due("nothing is changed by " + call, new Answers(refused).areAlso(new Answers(maker)), true);
    }

    static void end() {
        System.out.println(done + " answers looked at, " + wrong + " wrong");
        if (wrong != 0) {
            System.exit(1);
        }
    }
}
