import java.util.NoSuchElementException;
import java.util.function.BiConsumer;

/** Promises 5 to 8: require, exclude, any and lift. */
public final class RuleTest {
    private static final Class<IndexOutOfBoundsException> INDEX = IndexOutOfBoundsException.class;
    private static final Class<IllegalArgumentException> ARGUMENT = IllegalArgumentException.class;
    private static final Class<IllegalStateException> STATE = IllegalStateException.class;
    private static final Class<NoSuchElementException> NO_RULE = NoSuchElementException.class;
    private static final Class<UnsupportedOperationException> NONE =
            UnsupportedOperationException.class;

    public static void main(String[] args) throws IllegalAccessException {
        Cases.run(RuleTest.class);
    }

    // require

    static void promise5_numbersFrom0To19() {
        TreeConfigurator x = Models.flat(2);
        for (int rule = 0; rule < 20; rule++) {
            Due.answer("require(1, 2)", x.require(1, 2), rule);
        }
        Due.answer("the first alone", x.isConfiguration(0b011), false);
        Due.answer("completions()", x.completions(), 3L);
    }

    static void promise5_bothWays() {
        TreeConfigurator x = Models.flat(2);
        Due.answer("require(1, 2)", x.require(1, 2), 0);
        Due.answer("require(2, 1)", x.require(2, 1), 1);
        Due.answer("neither", x.isConfiguration(0b001), true);
        Due.answer("the second alone", x.isConfiguration(0b101), false);
        Due.answer("completions()", x.completions(), 2L);
    }

    static void promise5_rootAndFeature11() {
        TreeConfigurator x = Models.flat(11);
        Due.answer("require(11, 0)", x.require(11, 0), 0);
        Due.answer("completions() still", x.completions(), 2048L);
        Due.answer("require(0, 11)", x.require(0, 11), 1);
        Due.answer("completions() with 11", x.completions(), 1024L);
        Due.answer("require(11, 1)", x.require(11, 1), 2);
        Due.answer("completions() with 1 and 11", x.completions(), 512L);
    }

    static void promise5_noSuchFeature() {
        Outside.features("require(f, 0)", (x, feature) -> x.require(feature, 0));
        Outside.features("require(0, f)", (x, feature) -> x.require(0, feature));
    }

    static void promise5_bothTheSame() {
        Due.refusal("the root", ARGUMENT, Models::decided, x -> x.require(0, 0));
        Due.refusal("the last", ARGUMENT, Models::decided, x -> x.require(6, 6));
        Due.refusal("one feature", ARGUMENT, TreeConfigurator::new, x -> x.require(0, 0));
    }

    static void promise5_twentyRules() {
        Due.refusal("a 21st", STATE, Models::full, x -> x.require(1, 2));
        Due.refusal("a 21st, all lifted", STATE, RuleTest::fullAndLifted, x -> x.require(1, 2));
    }

    static void promise5_noCompletion() {
        Due.refusal("the root requires a refused one", NONE, Models::decided,
                x -> x.require(0, 5));
        Due.refusal("a chosen one requires an absent one", NONE, Models::decided,
                x -> x.require(6, 3));
        Due.refusal("no rule yet", NONE, RuleTest::oneChosenOneRefused, x -> x.require(1, 2));
        Due.answer("the other way", oneChosenOneRefused().require(2, 1), 0);
    }

    static void promise5_orderOfExceptions() {
        Due.refusal("no feature, the same", INDEX, Models::decided, x -> x.require(7, 7));
        Due.refusal("no feature, the same", INDEX, Models::decided, x -> x.require(-1, -1));
        Due.refusal("no feature, 20 rules", INDEX, Models::full, x -> x.require(1, 12));
        Due.refusal("no feature, the same, 20", INDEX, Models::full, x -> x.require(12, 12));
        Due.refusal("the same, 20 rules", ARGUMENT, Models::full, x -> x.require(1, 1));
        Due.refusal("20 rules, no completion", STATE, Models::fullAndDecided,
                x -> x.require(0, 1));
    }

    static void promise5_refusedCallTakesNoNumber() {
        TreeConfigurator x = oneChosenOneRefused();
        for (int call = 0; call < 21; call++) {
            Due.answer("require(1, 2)", Due.thrownBy(() -> x.require(1, 2)),
                    "UnsupportedOperationException");
        }
        Due.answer("lift(0)", Due.thrownBy(() -> x.lift(0)), "NoSuchElementException");
        Due.answer("require(2, 1)", x.require(2, 1), 0);
        x.retractAll();
        Due.answer("the first alone", x.isConfiguration(0b0011), true);
    }

    // exclude

    static void promise6_numbersFrom0To19() {
        TreeConfigurator x = Models.flat(2);
        for (int rule = 0; rule < 20; rule++) {
            Due.answer("exclude(2, 1)", x.exclude(2, 1), rule);
        }
        Due.answer("both", x.isConfiguration(0b111), false);
        Due.answer("completions()", x.completions(), 3L);
    }

    static void promise6_rootAndFeature11() {
        TreeConfigurator x = Models.flat(11);
        Due.answer("exclude(11, 1)", x.exclude(11, 1), 0);
        Due.answer("completions()", x.completions(), 1536L);
        Due.answer("exclude(0, 11)", x.exclude(0, 11), 1);
        Due.answer("completions() without 11", x.completions(), 1024L);
        Due.answer("exclude(1, 0)", x.exclude(1, 0), 2);
        Due.answer("completions() without 1 and 11", x.completions(), 512L);
    }

    static void promise6_noSuchFeature() {
        Outside.features("exclude(f, 0)", (x, feature) -> x.exclude(feature, 0));
        Outside.features("exclude(0, f)", (x, feature) -> x.exclude(0, feature));
    }

    static void promise6_bothTheSame() {
        Due.refusal("the root", ARGUMENT, Models::decided, x -> x.exclude(0, 0));
        Due.refusal("the last", ARGUMENT, Models::decided, x -> x.exclude(4, 4));
        Due.refusal("one feature", ARGUMENT, TreeConfigurator::new, x -> x.exclude(0, 0));
    }

    static void promise6_twentyRules() {
        Due.refusal("a 21st", STATE, Models::full, x -> x.exclude(3, 4));
        Due.refusal("a 21st, all lifted", STATE, RuleTest::fullAndLifted, x -> x.exclude(1, 2));
    }

    static void promise6_noCompletion() {
        Due.refusal("the root and a mandatory one", NONE, Models::bicycle, x -> x.exclude(0, 1));
        Due.refusal("two that have to be in", NONE, Models::decided, x -> x.exclude(1, 6));
        Due.refusal("two chosen ones, no rule yet", NONE, RuleTest::bothChosen,
                x -> x.exclude(2, 1));
        Due.answer("one that is not chosen", bothChosen().exclude(2, 3), 0);
    }

    static void promise6_orderOfExceptions() {
        Due.refusal("no feature, the same", INDEX, Models::decided, x -> x.exclude(7, 7));
        Due.refusal("no feature, the same", INDEX, Models::decided, x -> x.exclude(-1, -1));
        Due.refusal("no feature, 20 rules", INDEX, Models::full, x -> x.exclude(-1, 1));
        Due.refusal("no feature, the same, 20", INDEX, Models::full, x -> x.exclude(12, 12));
        Due.refusal("the same, 20 rules", ARGUMENT, Models::full, x -> x.exclude(3, 3));
        Due.refusal("the same, no completion", ARGUMENT, Models::decided, x -> x.exclude(6, 6));
        Due.refusal("the same, 20, no completion", ARGUMENT, Models::fullAndDecided,
                x -> x.exclude(2, 2));
        Due.refusal("20 rules, no completion", STATE, Models::fullAndDecided,
                x -> x.exclude(0, 2));
    }

    static void promise6_refusedCallTakesNoNumber() {
        TreeConfigurator x = bothChosen();
        for (int call = 0; call < 21; call++) {
            Due.answer("exclude(1, 2)", Due.thrownBy(() -> x.exclude(1, 2)),
                    "UnsupportedOperationException");
        }
        Due.answer("lift(0)", Due.thrownBy(() -> x.lift(0)), "NoSuchElementException");
        Due.answer("exclude(1, 3)", x.exclude(1, 3), 0);
        Due.answer("both", x.isConfiguration(0b0111), true);
    }

    // any

    static void promise7_numbersFrom0To19() {
        TreeConfigurator x = Models.flat(3);
        for (int rule = 0; rule < 20; rule++) {
            Due.answer("any(3, 1, 2)", x.any(3, 1, 2), rule);
        }
        Due.answer("none of them", x.isConfiguration(0b0001), false);
        Due.answer("completions()", x.completions(), 7L);
    }

    static void promise7_inEachOrder() {
        int[][] orders = {{1, 2, 3}, {1, 3, 2}, {2, 1, 3}, {2, 3, 1}, {3, 1, 2}, {3, 2, 1}};
        for (int[] order : orders) {
            TreeConfigurator x = Models.flat(3);
            x.any(order[0], order[1], order[2]);
            Due.answer("completions()", x.completions(), 7L);
            Due.answer("completionsByAll()", x.completionsByAll(), 7L);
            x.refuse(order[0]);
            x.refuse(order[2]);
            Due.answer("the state of the one that is left", x.stateOf(order[1]), 'a');
        }
    }

    static void promise7_rootAndFeature11() {
        TreeConfigurator x = Models.flat(11);
        Due.answer("any(11, 0, 1)", x.any(11, 0, 1), 0);
        Due.answer("completions() still", x.completions(), 2048L);
        Due.answer("any(11, 9, 10)", x.any(11, 9, 10), 1);
        Due.answer("completions()", x.completions(), 1792L);
    }

    static void promise7_noSuchFeature() {
        Outside.features("any(f, 0, 0)", (x, feature) -> x.any(feature, 0, 0));
        Outside.features("any(0, f, 0)", (x, feature) -> x.any(0, feature, 0));
        Outside.features("any(0, 0, f)", (x, feature) -> x.any(0, 0, feature));
    }

    static void promise7_twoTheSame() {
        Due.refusal("the first and the second", ARGUMENT, Models::decided, x -> x.any(1, 1, 2));
        Due.refusal("the first and the third", ARGUMENT, Models::decided, x -> x.any(1, 2, 1));
        Due.refusal("the second and the third", ARGUMENT, Models::decided, x -> x.any(2, 1, 1));
        Due.refusal("all three", ARGUMENT, Models::decided, x -> x.any(3, 3, 3));
        Due.refusal("one feature", ARGUMENT, TreeConfigurator::new, x -> x.any(0, 0, 0));
        Due.refusal("two features", ARGUMENT, () -> Models.flat(1), x -> x.any(0, 1, 0));
    }

    static void promise7_twentyRules() {
        Due.refusal("a 21st", STATE, Models::full, x -> x.any(1, 2, 3));
        Due.refusal("a 21st, all lifted", STATE, RuleTest::fullAndLifted, x -> x.any(1, 2, 3));
    }

    static void promise7_noCompletion() {
        Due.refusal("three refused ones", NONE, RuleTest::threeRefused, x -> x.any(1, 2, 3));
        Due.refusal("in another order", NONE, RuleTest::threeRefused, x -> x.any(3, 1, 2));
        Due.refusal("one that can't be in", NONE, RuleTest::threeAbsent, x -> x.any(3, 5, 7));
        Due.answer("two refused ones", threeRefused().any(1, 4, 3), 0);
        Due.answer("with the root", threeRefused().any(1, 0, 3), 0);
    }

    static void promise7_orderOfExceptions() {
        Due.refusal("no feature, the same", INDEX, Models::decided, x -> x.any(1, 1, -1));
        Due.refusal("no feature, the same", INDEX, Models::decided, x -> x.any(-1, 1, 1));
        Due.refusal("no feature, the same", INDEX, Models::decided, x -> x.any(1, 7, 7));
        Due.refusal("no feature, the same", INDEX, Models::decided, x -> x.any(1, 7, 1));
        Due.refusal("no feature, 20 rules", INDEX, Models::full, x -> x.any(1, 2, 12));
        Due.refusal("no feature, the same, 20", INDEX, Models::full, x -> x.any(12, 2, 2));
        Due.refusal("the same, 20 rules", ARGUMENT, Models::full, x -> x.any(3, 1, 3));
        Due.refusal("the same, no completion", ARGUMENT, RuleTest::threeRefused,
                x -> x.any(1, 2, 2));
        Due.refusal("20 rules, no completion", STATE, RuleTest::fullAndThreeRefused,
                x -> x.any(1, 2, 3));
    }

    static void promise7_refusedCallTakesNoNumber() {
        TreeConfigurator x = threeRefused();
        for (int call = 0; call < 21; call++) {
            Due.answer("any(1, 2, 3)", Due.thrownBy(() -> x.any(1, 2, 3)),
                    "UnsupportedOperationException");
        }
        Due.answer("lift(0)", Due.thrownBy(() -> x.lift(0)), "NoSuchElementException");
        Due.answer("any(1, 2, 4)", x.any(1, 2, 4), 0);
        x.retractAll();
        Due.answer("4 alone", x.isConfiguration(0b10001), true);
        Due.answer("3 alone", x.isConfiguration(0b01001), false);
    }

    // lift

    static void promise8_from19To0InForce() {
        TreeConfigurator x = Models.full();
        Due.answer("lift(19)", x.lift(19), 19);
        Due.answer("lift(0)", x.lift(0), 18);
        for (int rule = 1; rule < 19; rule++) {
            Due.answer("lift(" + rule + ")", x.lift(rule), 18 - rule);
        }
    }

    static void promise8_theOnlyRule() {
        TreeConfigurator x = Models.flat(1);
        x.require(0, 1);
        Due.answer("with it", x.isConfiguration(1), false);
        Due.answer("lift(0)", x.lift(0), 0);
        Due.answer("without it", x.isConfiguration(1), true);
    }

    static void promise8_liftsJustTheOne() {
        TreeConfigurator x = Models.flat(2);
        x.require(1, 2);
        x.exclude(1, 2);
        x.require(0, 2);
        Due.answer("completions()", x.completions(), 1L);
        Due.answer("lift(1)", x.lift(1), 2);
        Due.answer("completions() without 1", x.completions(), 2L);
        Due.answer("lift(2)", x.lift(2), 1);
        Due.answer("completions() without 1 and 2", x.completions(), 3L);
        Due.answer("lift(0)", x.lift(0), 0);
        Due.answer("completions() without rules", x.completions(), 4L);
    }

    static void promise8_noSuchRule() {
        BiConsumer<TreeConfigurator, Integer> lift = TreeConfigurator::lift;
        Outside.refuses("lift, no rule", NO_RULE, () -> Models.flat(2), lift,
                0, -1, 1, 19, 20, 32, Integer.MAX_VALUE, Integer.MIN_VALUE);
        Outside.refuses("lift, 2 rules", NO_RULE, Models::decided, lift, 2, -1, 19, 33, 32);
        Outside.refuses("lift, 20 rules", NO_RULE, Models::full, lift,
                20, -1, 31, 32, 51, 64, Integer.MAX_VALUE, Integer.MIN_VALUE);
    }

    static void promise8_liftedAlready() {
        Due.refusal("the first", STATE, Models::decided, x -> x.lift(0));
        Due.refusal("the first of 20", STATE, RuleTest::fullAndLifted, x -> x.lift(0));
        Due.refusal("the last of 20", STATE, RuleTest::fullAndLifted, x -> x.lift(19));
    }

    static void promise8_liftedRuleKeepsItsNumber() {
        TreeConfigurator x = Models.flat(2);
        x.require(1, 2);
        x.lift(0);
        Due.answer("the next rule", x.exclude(1, 2), 1);
        Due.answer("lift(0) again", Due.thrownBy(() -> x.lift(0)), "IllegalStateException");
        Due.answer("lift(1)", x.lift(1), 0);
        Due.answer("the one after", x.any(0, 1, 2), 2);
    }

    private static TreeConfigurator fullAndLifted() {
        TreeConfigurator x = Models.full();
        for (int rule = 0; rule < 20; rule++) {
            x.lift(rule);
        }
        return x;
    }

    private static TreeConfigurator fullAndThreeRefused() {
        TreeConfigurator x = Models.full();
        x.refuse(1);
        x.refuse(2);
        x.refuse(3);
        return x;
    }

    private static TreeConfigurator oneChosenOneRefused() {
        TreeConfigurator x = Models.flat(3);
        x.choose(1);
        x.refuse(2);
        return x;
    }

    private static TreeConfigurator bothChosen() {
        TreeConfigurator x = Models.flat(3);
        x.choose(1);
        x.choose(2);
        return x;
    }

    private static TreeConfigurator threeRefused() {
        TreeConfigurator x = Models.flat(4);
        x.refuse(3);
        x.refuse(1);
        x.refuse(2);
        return x;
    }

    /** 3 is excluded by 6, and 5 and 7 are refused. */
    private static TreeConfigurator threeAbsent() {
        TreeConfigurator x = Models.decided();
        x.addFeature(1, 0);
        x.refuse(7);
        return x;
    }
}
