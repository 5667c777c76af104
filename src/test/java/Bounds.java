import java.util.function.IntUnaryOperator;
import java.util.function.Supplier;

/** The ends of an argument's range; each of them, and the first value beyond it, is a test on a lake of its own. */
final class Bounds {
    static final Class<? extends RuntimeException> INDEX = IndexOutOfBoundsException.class;
    static final Class<? extends RuntimeException> ARGUMENT = IllegalArgumentException.class;

    /** A call of the class with one number left open. */
    interface Call {
        int on(EelPermits lake, int value);
    }

    private final String name;
    private final Class<? extends RuntimeException> refusal;
    private final Supplier<EelPermits> lakes;
    private final Call call;

    Bounds(String name, Class<? extends RuntimeException> refusal, Supplier<EelPermits> lakes, Call call) {
        this.name = name;
        this.refusal = refusal;
        this.lakes = lakes;
        this.call = call;
    }

    /** The numbers from least to most are allowed, and no others. */
    void hold(int least, int most, IntUnaryOperator due) {
        allows(least, due.applyAsInt(least));
        allows(most, due.applyAsInt(most));
        refuses(least - 1);
        refuses(most + 1);
        refusesFarOnes();
    }

    /** No number at all is allowed, the one that would be the first as little as the others. */
    void holdNone(int first) {
        refuses(first - 1);
        refuses(first);
        refuses(first + 1);
        refusesFarOnes();
    }

    void allows(int value, int due) {
        Check.test(name + ", " + value + " is allowed", () -> {
            EelPermits lake = lakes.get();
            Check.same("it", call.on(lake, value), due);
        });
    }

    void refuses(int value) {
        Check.test(name + ", " + value + " is not allowed", () -> {
            EelPermits lake = lakes.get();
            Check.refused(lake, "it", refusal, () -> call.on(lake, value));
        });
    }

    private void refusesFarOnes() {
        refuses(Integer.MIN_VALUE);
        refuses(Integer.MAX_VALUE);
    }
}
