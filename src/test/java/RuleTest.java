import java.util.NoSuchElementException;

/** Promises 5 to 8: require, exclude, any and lift. */
public final class RuleTest {
    private static final Class<IndexOutOfBoundsException> INDEX = IndexOutOfBoundsException.class;
    private static final Class<IllegalArgumentException> ARGUMENT = IllegalArgumentException.class;
    private static final Class<IllegalStateException> STATE = IllegalStateException.class;
    private static final Class<UnsupportedOperationException> NONE =
            UnsupportedOperationException.class;

    public static void main(String[] args) {
        requiring();
        requireRefused();
        excluding();
        excludeRefused();
        wantingAny();
        anyRefused();
        lifting();
        numbers();
        Due.end();
    }

    private static void requiring() {
        TreeConfigurator x = Models.flat(2);
        Due.answer("require(1, 2)", x.require(1, 2), 0);
        Due.answer("neither", x.isConfiguration(0b001), true);
        Due.answer("the first alone", x.isConfiguration(0b011), false);
        Due.answer("the second alone", x.isConfiguration(0b101), true);
        Due.answer("both", x.isConfiguration(0b111), true);
        Due.answer("require(2, 1)", x.require(2, 1), 1);
        Due.answer("the second alone then", x.isConfiguration(0b101), false);
        Due.answer("require(0, 1)", x.require(0, 1), 2);
        Due.answer("completions()", x.completions(), 1L);
        Due.answer("require(1, 0)", x.require(1, 0), 3);
        Due.answer("completions() still", x.completions(), 1L);
    }

    private static void requireRefused() {
        Due.refusal("require(7, 1)", INDEX, Models::decided, x -> x.require(7, 1));
        Due.refusal("require(1, 7)", INDEX, Models::decided, x -> x.require(1, 7));
        Due.refusal("require(-1, -1)", INDEX, Models::decided, x -> x.require(-1, -1));
        Due.refusal("require(0, -1)", INDEX, Models::decided, x -> x.require(0, -1));
        Due.refusal("require(1, 1)", ARGUMENT, Models::decided, x -> x.require(1, 1));
        Due.refusal("require(1, 12), full", INDEX, Models::full, x -> x.require(1, 12));
        Due.refusal("require(1, 1), full", ARGUMENT, Models::full, x -> x.require(1, 1));
        Due.refusal("require(1, 2), full", STATE, Models::full, x -> x.require(1, 2));
        Due.refusal("full, no completion", STATE, RuleTest::fullAndRefused, x -> x.require(0, 1));
        Due.refusal("require(0, 5)", NONE, Models::decided, x -> x.require(0, 5));
        Due.refusal("require(6, 3)", NONE, Models::decided, x -> x.require(6, 3));
    }

    private static void excluding() {
        TreeConfigurator x = Models.flat(2);
        Due.answer("exclude(2, 1)", x.exclude(2, 1), 0);
        Due.answer("neither", x.isConfiguration(0b001), true);
        Due.answer("1 alone", x.isConfiguration(0b011), true);
        Due.answer("2 alone", x.isConfiguration(0b101), true);
        Due.answer("both", x.isConfiguration(0b111), false);
        Due.answer("exclude(0, 2)", x.exclude(0, 2), 1);
        Due.answer("2 alone then", x.isConfiguration(0b101), false);
        Due.answer("completions()", x.completions(), 2L);
    }

    private static void excludeRefused() {
        Due.refusal("exclude(7, 1)", INDEX, Models::decided, x -> x.exclude(7, 1));
        Due.refusal("exclude(1, 7)", INDEX, Models::decided, x -> x.exclude(1, 7));
        Due.refusal("exclude(-1, -1)", INDEX, Models::decided, x -> x.exclude(-1, -1));
        Due.refusal("exclude(0, 0)", ARGUMENT, Models::decided, x -> x.exclude(0, 0));
        Due.refusal("exclude(-1, 1), full", INDEX, Models::full, x -> x.exclude(-1, 1));
        Due.refusal("exclude(3, 3), full", ARGUMENT, Models::full, x -> x.exclude(3, 3));
        Due.refusal("exclude(3, 4), full", STATE, Models::full, x -> x.exclude(3, 4));
        Due.refusal("full, no completion", STATE, RuleTest::fullAndRefused, x -> x.exclude(0, 2));
        Due.refusal("exclude(0, 1)", NONE, Models::decided, x -> x.exclude(0, 1));
        Due.refusal("exclude(1, 6)", NONE, Models::decided, x -> x.exclude(1, 6));
    }

    private static void wantingAny() {
        TreeConfigurator x = Models.flat(3);
        Due.answer("any(3, 1, 2)", x.any(3, 1, 2), 0);
        Due.answer("none of them", x.isConfiguration(0b0001), false);
        Due.answer("1 alone", x.isConfiguration(0b0011), true);
        Due.answer("2 alone", x.isConfiguration(0b0101), true);
        Due.answer("3 alone", x.isConfiguration(0b1001), true);
        Due.answer("all", x.isConfiguration(0b1111), true);
        Due.answer("completions()", x.completions(), 7L);
        Due.answer("any(0, 1, 2)", x.any(0, 1, 2), 1);
        Due.answer("completions() still", x.completions(), 7L);
        anyInEachOrder(1, 2, 3);
        anyInEachOrder(3, 1, 2);
        anyInEachOrder(1, 3, 2);
    }

    private static void anyInEachOrder(int first, int second, int third) {
        TreeConfigurator x = Models.flat(3);
        x.any(first, second, third);
        Due.answer("completions()", x.completions(), 7L);
        Due.answer("completionsByAll()", x.completionsByAll(), 7L);
        x.refuse(first);
        x.refuse(third);
        Due.answer("the state of the one that is left", x.stateOf(second), 'a');
    }

    private static void anyRefused() {
        Due.refusal("any(7, 1, 2)", INDEX, Models::decided, x -> x.any(7, 1, 2));
        Due.refusal("any(1, 7, 2)", INDEX, Models::decided, x -> x.any(1, 7, 2));
        Due.refusal("any(1, 2, 7)", INDEX, Models::decided, x -> x.any(1, 2, 7));
        Due.refusal("any(1, 1, -1)", INDEX, Models::decided, x -> x.any(1, 1, -1));
        Due.refusal("any(-1, 1, 1)", INDEX, Models::decided, x -> x.any(-1, 1, 1));
        Due.refusal("any(1, 1, 2)", ARGUMENT, Models::decided, x -> x.any(1, 1, 2));
        Due.refusal("any(1, 2, 1)", ARGUMENT, Models::decided, x -> x.any(1, 2, 1));
        Due.refusal("any(2, 1, 1)", ARGUMENT, Models::decided, x -> x.any(2, 1, 1));
        Due.refusal("any(1, 2, 12), full", INDEX, Models::full, x -> x.any(1, 2, 12));
        Due.refusal("any(3, 1, 3), full", ARGUMENT, Models::full, x -> x.any(3, 1, 3));
        Due.refusal("any(1, 2, 3), full", STATE, Models::full, x -> x.any(1, 2, 3));
        Due.refusal("full, no completion", STATE, RuleTest::fullAndRefused, x -> x.any(1, 2, 3));
        Due.refusal("any(1, 2, 3)", NONE, RuleTest::threeRefused, x -> x.any(1, 2, 3));
    }

    private static void lifting() {
        TreeConfigurator x = Models.flat(2);
        x.require(1, 2);
        x.exclude(1, 2);
        x.require(0, 1 + 1);
        Due.answer("completions()", x.completions(), 1L);
        Due.answer("lift(1)", x.lift(1), 2);
        Due.answer("completions() without 1", x.completions(), 2L);
        Due.answer("lift(2)", x.lift(2), 1);
        Due.answer("lift(0)", x.lift(0), 0);
        Due.answer("completions() without rules", x.completions(), 4L);
        Due.answer("a lifted rule has its number still", x.exclude(0, 1), 3);
        Due.refusal("lift(0)", STATE, Models::decided, y -> y.lift(0));
        Due.refusal("lift(2)", NoSuchElementException.class, Models::decided, y -> y.lift(2));
        Due.refusal("lift(-1)", NoSuchElementException.class, Models::decided, y -> y.lift(-1));
        Due.refusal("lift(20)", NoSuchElementException.class, Models::full, y -> y.lift(20));
        Due.refusal("lift(max)", NoSuchElementException.class, Models::full,
                y -> y.lift(Integer.MAX_VALUE));
        Due.refusal("lift(32)", NoSuchElementException.class, Models::full, y -> y.lift(32));
        Due.answer("lift(19)", Models.full().lift(19), 19);
    }

    /** A rule that is refused takes no number, a lifted one keeps it. */
    private static void numbers() {
        TreeConfigurator x = Models.flat(3);
        x.refuse(1);
        for (int rule = 0; rule < 20; rule++) {
            Due.answer("require(0, 1)", Due.thrownBy(() -> x.require(0, 1)),
                    "UnsupportedOperationException");
            Due.answer("exclude(2, 3)", x.exclude(2, 3), rule);
        }
        Due.answer("a 21st", Due.thrownBy(() -> x.exclude(2, 3)), "IllegalStateException");
        for (int rule = 19; rule >= 0; rule--) {
            Due.answer("lift", x.lift(rule), rule);
        }
        Due.answer("a 21st, all lifted", Due.thrownBy(() -> x.any(1, 2, 3)),
                "IllegalStateException");
        Due.answer("both of the excluded ones", x.isConfiguration(0b1101), true);
    }

    private static TreeConfigurator fullAndRefused() {
        TreeConfigurator x = Models.full();
        x.refuse(1);
        x.choose(2);
        x.refuse(3);
        return x;
    }

    private static TreeConfigurator threeRefused() {
        TreeConfigurator x = Models.flat(4);
        x.refuse(3);
        x.refuse(1);
        x.refuse(2);
        return x;
    }
}
