import java.util.function.BiFunction;

/** Promises 13 and 14: stateOf and stateByAll. */
public final class StateTest {
    private static final BiFunction<TreeConfigurator, Integer, Character> STATE =
            TreeConfigurator::stateOf;
    private static final BiFunction<TreeConfigurator, Integer, Character> BY_ALL =
            TreeConfigurator::stateByAll;

    public static void main(String[] args) {
        both("stateOf", STATE);
        both("stateByAll", BY_ALL);
        Due.end();
    }

    private static void both(String name, BiFunction<TreeConfigurator, Integer, Character> call) {
        Due.answer(name + " of the bicycle", states(Models.bicycle(), 7, call), "aaooooo");
        Due.answer(name + " with decisions", states(Models.decided(), 7, call), "aaaxarc");
        Due.answer(name + " of all 12", states(Models.full(), 12, call), "aooooooooooo");
        seesMoreThanDeduction(name, call);
        decidedComesFirst(name, call);
        Class<IndexOutOfBoundsException> index = IndexOutOfBoundsException.class;
        Due.refusal(name + "(-1)", index, Models::decided, x -> call.apply(x, -1));
        Due.refusal(name + "(7)", index, Models::decided, x -> call.apply(x, 7));
        Due.refusal(name + "(12)", index, Models::full, x -> call.apply(x, 12));
        Due.refusal(name + "(32)", index, Models::full, x -> call.apply(x, 32));
        Due.refusal(name + "(min)", index, Models::full, x -> call.apply(x, Integer.MIN_VALUE));
    }

    /** 1 leads to 2 and to 3, which exclude each other; one of 1, 4 and 5 has to be in. */
    private static void seesMoreThanDeduction(
            String name, BiFunction<TreeConfigurator, Integer, Character> call) {
        TreeConfigurator x = Models.flat(5);
        x.require(1, 2);
        x.require(1, 3);
        x.exclude(2, 3);
        x.any(1, 4, 5);
        Due.answer(name + " of what is in none", call.apply(x, 1), 'x');
        Due.answer("known(1)", x.known(1), 'u');
        x.refuse(4);
        Due.answer(name + " of what is in all", call.apply(x, 5), 'a');
        Due.answer("known(5)", x.known(5), 'u');
        Due.answer(name + " of what is in some", call.apply(x, 2), 'o');
        x.lift(2);
        Due.answer(name + " without the rule", call.apply(x, 1), 'o');
    }

    /** A decided feature is told as decided, though it is in all or in none. */
    private static void decidedComesFirst(
            String name, BiFunction<TreeConfigurator, Integer, Character> call) {
        TreeConfigurator x = Models.flat(2);
        x.setMandatory(1, true);
        x.exclude(1, 2);
        Due.answer(name + " undecided", states(x, 3, call), "aax");
        x.choose(1);
        x.refuse(2);
        Due.answer(name + " decided", states(x, 3, call), "acr");
        x.retract(1);
        Due.answer(name + " retracted", states(x, 3, call), "aar");
    }

    private static String states(
            TreeConfigurator x, int features,
            BiFunction<TreeConfigurator, Integer, Character> call) {
        StringBuilder states = new StringBuilder();
        for (int feature = 0; feature < features; feature++) {
            states.append(call.apply(x, feature));
        }
        return states.toString();
    }
}
