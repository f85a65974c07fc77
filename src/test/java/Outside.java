import java.util.function.BiConsumer;
import java.util.function.Supplier;

/** Numbers that nothing has: the first beyond each end, and such as a shift would wrap round. */
final class Outside {
    private Outside() {
    }

    /** The call refuses every number that no feature has, and changes nothing. */
    static void features(String call, BiConsumer<TreeConfigurator, Integer> caller) {
        Class<IndexOutOfBoundsException> index = IndexOutOfBoundsException.class;
        refuses(call + ", one feature", index, TreeConfigurator::new, caller, 1, -1, 32);
        refuses(call + ", 7 features", index, Models::decided, caller, 7, -1, 12, 32, 37, -27,
                Integer.MAX_VALUE, Integer.MIN_VALUE);
        refuses(call + ", 12 features", index, Models::full, caller, 12, -1, 31, 32, 33, 43, 64,
                Integer.MAX_VALUE, Integer.MIN_VALUE);
    }

    /** The call refuses every number that is no set of features, and changes nothing. */
    static void sets(String call, BiConsumer<TreeConfigurator, Integer> caller) {
        Class<IllegalArgumentException> argument = IllegalArgumentException.class;
        refuses(call + ", one feature", argument, TreeConfigurator::new, caller, 2, 3, -1);
        refuses(call + ", 7 features", argument, Models::decided, caller, 128, 129, 255, -1, -128,
                4096, Integer.MAX_VALUE, Integer.MIN_VALUE, Integer.MIN_VALUE + 1);
        refuses(call + ", 12 features", argument, Models::full, caller, 4096, 4097, 8191, -1, -4095,
                1 << 30, Integer.MAX_VALUE, Integer.MIN_VALUE, Integer.MIN_VALUE + 1);
    }

    static void refuses(
            String call,
            Class<? extends RuntimeException> want,
            Supplier<TreeConfigurator> maker,
            BiConsumer<TreeConfigurator, Integer> caller,
            int... numbers) {
        for (int number : numbers) {
            Due.refusal(call + " with " + number, want, maker, x -> caller.accept(x, number));
        }
    }
}
