import java.util.Objects;
import java.util.function.Consumer;
import java.util.function.Supplier;

/** Compares answers with those that are due, and counts the ones that differ. */
final class Due {
    private static String inCase = "";
    private static int wrong = 0;
    private static int compared = 0;

    private Due() {
    }

    /** The answers from now on belong to this case. */
    static void begin(String name) {
        inCase = name + ": ";
    }

    static void answer(String call, Object got, Object want) {
        compared++;
        if (!Objects.equals(got, want)) {
            wrong++;
            System.out.println(inCase + call + " answered " + got + ", due is " + want);
        }
    }

    /** The call throws exactly this exception, and the object is as it was without the call. */
    static void refusal(
            String call,
            Class<? extends RuntimeException> want,
            Supplier<TreeConfigurator> maker,
            Consumer<TreeConfigurator> caller) {
        TreeConfigurator called = maker.get();
        answer(call, thrownBy(() -> caller.accept(called)), want.getSimpleName());
        answer("the state after " + call, Probe.of(called), Probe.of(maker.get()));
    }

    static String thrownBy(Runnable call) {
        try {
            call.run();
            return "nothing";
        } catch (RuntimeException e) {
            return e.getClass().getSimpleName();
        }
    }

    static void end() {
        System.out.println(compared + " answers compared, " + wrong + " not as due");
        if (wrong != 0) {
            System.exit(1);
        }
    }
}
