import java.util.function.ToLongFunction;

/** Promises 19 to 21: isConfiguration, completions and completionsByAll. */
public final class CompletionTest {
    public static void main(String[] args) throws IllegalAccessException {
        Cases.run(CompletionTest.class);
    }

    // isConfiguration

    static void promise19_setsOfTheBicycle() {
        TreeConfigurator x = Models.bicycle();
        Due.answer("1 and 4", x.isConfiguration(0b0010011), true);
        Due.answer("without the root", x.isConfiguration(0b0010010), false);
        Due.answer("without the mandatory 1", x.isConfiguration(0b0000101), false);
        Due.answer("too few children of 1", x.isConfiguration(0b0000011), false);
        Due.answer("too many children of 1", x.isConfiguration(0b0111011), false);
        Due.answer("6 without its parent 2", x.isConfiguration(0b1010011), false);
        Due.answer("6 with its parent 2", x.isConfiguration(0b1010111), true);
        Due.answer("6 and 3", x.isConfiguration(0b1001111), false);
        Due.answer("2 without 4: the rule is lifted", x.isConfiguration(0b0001111), true);
    }

    static void promise19_decisionsDoNotMatter() {
        TreeConfigurator x = Models.decided();
        Due.answer("without a chosen one", x.isConfiguration(0b0001111), true);
        Due.answer("with a refused one", x.isConfiguration(0b0100011), true);
    }

    static void promise19_set0IsTheLeast() {
        Due.answer("one feature", new TreeConfigurator().isConfiguration(0), false);
        Due.answer("7 features", Models.decided().isConfiguration(0), false);
        Due.answer("12 features", Models.full().isConfiguration(0), false);
    }

    static void promise19_allFeaturesIsTheGreatest() {
        Due.answer("one feature", new TreeConfigurator().isConfiguration(1), true);
        Due.answer("7 features", Models.decided().isConfiguration(127), false);
        Due.answer("12 features", Models.full().isConfiguration(4095), true);
        Due.answer("the root and the last of 12", Models.full().isConfiguration(2049), true);
        Due.answer("the last of 12 alone", Models.full().isConfiguration(2048), false);
    }

    static void promise19_lessThan0OrAFeatureThatThereIsNot() {
        Outside.sets("isConfiguration", TreeConfigurator::isConfiguration);
    }

    static void promise19_aFeatureThatIsThereNow() {
        TreeConfigurator x = Models.flat(1);
        Due.answer("before", Due.thrownBy(() -> x.isConfiguration(5)), "IllegalArgumentException");
        x.addFeature(0, 0);
        Due.answer("then", x.isConfiguration(5), true);
    }

    // completions and completionsByAll

    static void promise20_from1To2048() {
        from1To2048(TreeConfigurator::completions);
    }

    static void promise21_from1To2048() {
        from1To2048(TreeConfigurator::completionsByAll);
    }

    private static void from1To2048(ToLongFunction<TreeConfigurator> count) {
        Due.answer("one feature", count.applyAsLong(new TreeConfigurator()), 1L);
        Due.answer("two features", count.applyAsLong(Models.flat(1)), 2L);
        Due.answer("11 children", count.applyAsLong(Models.flat(11)), 2048L);
        Due.answer("a chain of 12", count.applyAsLong(Models.chain(12)), 12L);
        Due.answer("the full one", count.applyAsLong(Models.full()), 2048L);
        TreeConfigurator x = Models.full();
        for (int feature = 1; feature <= 11; feature++) {
            x.choose(feature);
            Due.answer("with " + feature + " chosen", count.applyAsLong(x), 2048L >> feature);
        }
    }

    static void promise20_groupsAndDecisions() {
        groupsAndDecisions(TreeConfigurator::completions);
    }

    static void promise21_groupsAndDecisions() {
        groupsAndDecisions(TreeConfigurator::completionsByAll);
    }

    private static void groupsAndDecisions(ToLongFunction<TreeConfigurator> count) {
        Due.answer("the bicycle", count.applyAsLong(Models.bicycle()), 15L);
        Due.answer("the decided bicycle", count.applyAsLong(Models.decided()), 1L);
        TreeConfigurator x = Models.flat(11);
        x.setGroup(0, 5, 5);
        Due.answer("5 of 11", count.applyAsLong(x), 462L);
        x.choose(11);
        Due.answer("4 of 10", count.applyAsLong(x), 210L);
        x.refuse(1);
        Due.answer("4 of 9", count.applyAsLong(x), 126L);
        x.retractAll();
        x.setMandatory(3, true);
        Due.answer("5 of 11 with 3", count.applyAsLong(x), 210L);
        TreeConfigurator y = Models.bicycle();
        y.choose(2);
        Due.answer("the bicycle with 2", count.applyAsLong(y), 9L);
        y.refuse(6);
        Due.answer("the bicycle with 2, without 6", count.applyAsLong(y), 6L);
    }

    static void promise20_rules() {
        rules(TreeConfigurator::completions);
    }

    static void promise21_rules() {
        rules(TreeConfigurator::completionsByAll);
    }

    private static void rules(ToLongFunction<TreeConfigurator> count) {
        TreeConfigurator x = Models.flat(11);
        for (int feature = 1; feature < 11; feature++) {
            x.require(feature, feature + 1);
        }
        Due.answer("each requires the next", count.applyAsLong(x), 12L);
        x.require(11, 1);
        Due.answer("all or none", count.applyAsLong(x), 2L);
        x.any(1, 5, 11);
        Due.answer("all", count.applyAsLong(x), 1L);
        for (int rule = 0; rule < 11; rule++) {
            x.lift(rule);
        }
        Due.answer("at least one of three", count.applyAsLong(x), 1792L);
        x.lift(11);
        Due.answer("no rule in force", count.applyAsLong(x), 2048L);
    }
}
