import java.util.function.BiFunction;

/** Promises 13 and 14: stateOf and stateByAll. */
public final class StateTest {
    private static final BiFunction<TreeConfigurator, Integer, Character> STATE =
            TreeConfigurator::stateOf;
    private static final BiFunction<TreeConfigurator, Integer, Character> BY_ALL =
            TreeConfigurator::stateByAll;

    public static void main(String[] args) throws IllegalAccessException {
        Cases.run(StateTest.class);
    }

    static void promise13_eachLetter() {
        eachLetter(STATE);
    }

    static void promise14_eachLetter() {
        eachLetter(BY_ALL);
    }

    private static void eachLetter(BiFunction<TreeConfigurator, Integer, Character> call) {
        Due.answer("without decisions", states(Models.bicycle(), 7, call), "aaooooo");
        Due.answer("with decisions", states(Models.decided(), 7, call), "aaaxarc");
    }

    static void promise13_oneFeatureAnd12() {
        oneFeatureAnd12(STATE);
    }

    static void promise14_oneFeatureAnd12() {
        oneFeatureAnd12(BY_ALL);
    }

    private static void oneFeatureAnd12(BiFunction<TreeConfigurator, Integer, Character> call) {
        Due.answer("one feature", states(new TreeConfigurator(), 1, call), "a");
        Due.answer("12", states(Models.full(), 12, call), "aooooooooooo");
        Due.answer("12 with decisions", states(Models.fullAndDecided(), 12, call), "arcroooooooo");
        TreeConfigurator x = Models.chain(12);
        x.choose(11);
        Due.answer("12, the last chosen", states(x, 12, call), "aaaaaaaaaaac");
        x.retract(11);
        x.refuse(1);
        Due.answer("12, the first refused", states(x, 12, call), "arxxxxxxxxxx");
    }

    static void promise13_noSuchFeature() {
        Outside.features("stateOf", TreeConfigurator::stateOf);
    }

    static void promise14_noSuchFeature() {
        Outside.features("stateByAll", TreeConfigurator::stateByAll);
    }

    static void promise13_seesMoreThanDeduction() {
        seesMoreThanDeduction(STATE);
    }

    static void promise14_seesMoreThanDeduction() {
        seesMoreThanDeduction(BY_ALL);
    }

    /** 1 leads to 2 and to 3, which exclude each other; one of 1, 4 and 5 has to be in. */
    private static void seesMoreThanDeduction(
            BiFunction<TreeConfigurator, Integer, Character> call) {
        TreeConfigurator x = Models.flat(5);
        x.require(1, 2);
        x.require(1, 3);
        x.exclude(2, 3);
        x.any(1, 4, 5);
        Due.answer("what is in none", call.apply(x, 1), 'x');
        Due.answer("known(1)", x.known(1), 'u');
        x.refuse(4);
        Due.answer("what is in all", call.apply(x, 5), 'a');
        Due.answer("known(5)", x.known(5), 'u');
        Due.answer("what is in some", call.apply(x, 2), 'o');
        x.lift(2);
        Due.answer("without the rule", call.apply(x, 1), 'o');
    }

    static void promise13_inAllButOneOrInJustOne() {
        inAllButOneOrInJustOne(STATE);
    }

    static void promise14_inAllButOneOrInJustOne() {
        inAllButOneOrInJustOne(BY_ALL);
    }

    /** A feature that one completion alone has, or one alone has not, is in some of them. */
    private static void inAllButOneOrInJustOne(
            BiFunction<TreeConfigurator, Integer, Character> call) {
        TreeConfigurator x = Models.flat(11);
        x.setGroup(0, 10, 11);
        x.refuse(1);
        Due.answer("in the only one", call.apply(x, 11), 'a');
        x.retract(1);
        Due.answer("in 11 of 12", call.apply(x, 11), 'o');
        x.setGroup(0, 0, 1);
        Due.answer("in 1 of 12", call.apply(x, 11), 'o');
        x.setGroup(0, 0, 0);
        Due.answer("in none of 1", call.apply(x, 11), 'x');
        x.setGroup(0, 11, 11);
        Due.answer("in all of 1", call.apply(x, 11), 'a');
    }

    static void promise13_decidedComesFirst() {
        decidedComesFirst(STATE);
    }

    static void promise14_decidedComesFirst() {
        decidedComesFirst(BY_ALL);
    }

    /** A decided feature is told as decided, though it is in all or in none. */
    private static void decidedComesFirst(BiFunction<TreeConfigurator, Integer, Character> call) {
        TreeConfigurator x = Models.flat(2);
        x.setMandatory(1, true);
        x.exclude(1, 2);
        Due.answer("undecided", states(x, 3, call), "aax");
        x.choose(1);
        x.refuse(2);
        Due.answer("decided", states(x, 3, call), "acr");
        x.retract(1);
        Due.answer("retracted", states(x, 3, call), "aar");
    }

    private static String states(
            TreeConfigurator x, int features,
            BiFunction<TreeConfigurator, Integer, Character> call) {
        StringBuilder states = new StringBuilder();
        for (int feature = 0; feature < features; feature++) {
            states.append(call.apply(x, feature));
        }
        return states.toString();
    }
}
