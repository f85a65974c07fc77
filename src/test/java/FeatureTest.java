/** Promises 2 to 4: addFeature, setMandatory and setGroup. */
public final class FeatureTest {
    private static final Class<IndexOutOfBoundsException> INDEX = IndexOutOfBoundsException.class;
    private static final Class<IllegalArgumentException> ARGUMENT = IllegalArgumentException.class;
    private static final Class<IllegalStateException> STATE = IllegalStateException.class;
    private static final Class<UnsupportedOperationException> NONE =
            UnsupportedOperationException.class;

    public static void main(String[] args) throws IllegalAccessException {
        Cases.run(FeatureTest.class);
    }

    // addFeature

    static void promise2_numbersFrom1To11() {
        TreeConfigurator x = new TreeConfigurator();
        for (int feature = 1; feature <= 11; feature++) {
            Due.answer("addFeature below " + (feature - 1), x.addFeature(feature - 1, 1), feature);
        }
        Due.answer("known(11)", x.known(11), 'u');
        Due.answer("a chain of 12 is a configuration", x.isConfiguration(4095), true);
    }

    static void promise2_childOfTheParent() {
        TreeConfigurator x = new TreeConfigurator();
        x.addFeature(0, 0);
        x.addFeature(1, 0);
        x.addFeature(0, 0);
        Due.answer("2 without its parent 1", x.isConfiguration(0b0101), false);
        Due.answer("2 with its parent 1", x.isConfiguration(0b0111), true);
        Due.answer("3 below the root", x.isConfiguration(0b1001), true);
        Due.answer("completions()", x.completions(), 6L);
        Due.answer("children of 0", x.setGroup(0, 0, 12), 2);
        Due.answer("children of 1", x.setGroup(1, 0, 12), 1);
        Due.answer("children of 3", x.setGroup(3, 0, 12), 0);
    }

    static void promise2_isNotMandatory() {
        TreeConfigurator x = Models.flat(2);
        Due.answer("without them", x.isConfiguration(1), true);
        Due.answer("setMandatory(1, true)", x.setMandatory(1, true), false);
        Due.answer("setMandatory(2, false)", x.setMandatory(2, false), false);
        x.addFeature(1, 0);
        Due.answer("below a mandatory one", x.isConfiguration(0b0011), true);
    }

    static void promise2_price0IsTheLeast() {
        TreeConfigurator x = new TreeConfigurator();
        Due.answer("addFeature(0, 0)", x.addFeature(0, 0), 1);
        Due.answer("its price", x.price(2), 0);
        Due.answer("addFeature(0, 1)", x.addFeature(0, 1), 2);
        Due.answer("the other's price", x.price(4), 1);
    }

    static void promise2_price999IsTheGreatest() {
        TreeConfigurator x = new TreeConfigurator();
        Due.answer("addFeature(0, 999)", x.addFeature(0, 999), 1);
        Due.answer("its price", x.price(2), 999);
        Due.answer("addFeature(0, 998)", x.addFeature(0, 998), 2);
        Due.answer("the price of both", x.price(6), 1997);
    }

    static void promise2_priceOutOfRange() {
        Outside.refuses("addFeature(0, price)", ARGUMENT, Models::decided,
                (x, price) -> x.addFeature(0, price),
                -1, 1000, -999, Integer.MAX_VALUE, Integer.MIN_VALUE);
        Outside.refuses("addFeature(0, price), new", ARGUMENT, TreeConfigurator::new,
                (x, price) -> x.addFeature(0, price), -1, 1000);
    }

    static void promise2_noSuchParent() {
        Outside.refuses("addFeature(parent, 1)", INDEX, TreeConfigurator::new,
                (x, parent) -> x.addFeature(parent, 1),
                1, -1, 2, 11, 12, 32, Integer.MAX_VALUE, Integer.MIN_VALUE);
        Outside.refuses("addFeature(parent, 1), 7 features", INDEX, Models::decided,
                (x, parent) -> x.addFeature(parent, 1), 7, -1, 12, 38);
    }

    static void promise2_twelveFeatures() {
        TreeConfigurator x = Models.flat(10);
        Due.answer("the 12th", x.addFeature(10, 1), 11);
        Due.answer("a 13th", Due.thrownBy(() -> x.addFeature(0, 1)), "IllegalStateException");
        Due.refusal("a 13th below 0", STATE, Models::full, y -> y.addFeature(0, 0));
        Due.refusal("a 13th below 11", STATE, Models::full, y -> y.addFeature(11, 999));
        Due.refusal("a 13th of a chain", STATE, () -> Models.chain(12), y -> y.addFeature(11, 1));
    }

    static void promise2_orderOfExceptions() {
        Due.refusal("no parent, price", INDEX, Models::decided, x -> x.addFeature(7, -1));
        Due.refusal("no parent, price", INDEX, Models::decided, x -> x.addFeature(-1, 1000));
        Due.refusal("no parent, 12 features", INDEX, Models::full, x -> x.addFeature(12, 1));
        Due.refusal("no parent, price, 12", INDEX, Models::full, x -> x.addFeature(-1, -1));
        Due.refusal("price, 12 features", ARGUMENT, Models::full, x -> x.addFeature(0, 1000));
        Due.refusal("price, 12 features", ARGUMENT, Models::full, x -> x.addFeature(11, -1));
    }

    static void promise2_refusedCallTakesNoNumber() {
        TreeConfigurator x = new TreeConfigurator();
        Due.thrownBy(() -> x.addFeature(1, 5));
        Due.thrownBy(() -> x.addFeature(0, -1));
        Due.answer("addFeature(0, 3)", x.addFeature(0, 3), 1);
        Due.answer("its price", x.price(3), 3);
        Due.answer("completions()", x.completions(), 2L);
    }

    static void promise2_whereDecisionsStand() {
        TreeConfigurator x = Models.flat(2);
        x.setGroup(0, 0, 1);
        x.choose(1);
        x.addFeature(0, 0);
        x.addFeature(2, 0);
        x.addFeature(1, 0);
        Due.answer("the new ones", Probe.line(x), "0o+ 1d+ 2f- 3f- 4p- 5?");
        Due.answer("completions()", x.completions(), 2L);
    }

    static void promise2_aLeafThatWantedAChild() {
        TreeConfigurator x = Models.flat(1);
        x.setGroup(1, 1, 1);
        Due.answer("in no completion", x.stateOf(1), 'x');
        x.addFeature(1, 0);
        Due.answer("in some then", x.stateOf(1), 'o');
        Due.answer("choose(1)", x.choose(1), 0);
        Due.answer("the line", Probe.line(x), "0o+ 1d+ 2n+");
    }

    // setMandatory

    static void promise3_tellsWhatWasBefore() {
        TreeConfigurator x = Models.flat(2);
        Due.answer("setMandatory(1, false), new", x.setMandatory(1, false), false);
        Due.answer("setMandatory(1, true)", x.setMandatory(1, true), false);
        Due.answer("setMandatory(1, true) again", x.setMandatory(1, true), true);
        Due.answer("setMandatory(2, true)", x.setMandatory(2, true), false);
        Due.answer("setMandatory(1, false)", x.setMandatory(1, false), true);
        Due.answer("setMandatory(1, false) again", x.setMandatory(1, false), false);
        Due.answer("setMandatory(2, false)", x.setMandatory(2, false), true);
    }

    static void promise3_fromNowOn() {
        TreeConfigurator x = Models.flat(2);
        x.setMandatory(1, true);
        Due.answer("completions() with 1", x.completions(), 2L);
        Due.answer("the root alone", x.isConfiguration(1), false);
        x.setMandatory(1, true);
        Due.answer("completions() still", x.completions(), 2L);
        x.setMandatory(1, false);
        Due.answer("completions() without", x.completions(), 4L);
        Due.answer("the root alone then", x.isConfiguration(1), true);
    }

    static void promise3_noSuchFeature() {
        Outside.features("setMandatory(f, true)", (x, feature) -> x.setMandatory(feature, true));
        Outside.features("setMandatory(f, false)", (x, feature) -> x.setMandatory(feature, false));
    }

    static void promise3_theRoot() {
        Due.refusal("true", ARGUMENT, Models::decided, x -> x.setMandatory(0, true));
        Due.refusal("false", ARGUMENT, Models::decided, x -> x.setMandatory(0, false));
        Due.refusal("one feature", ARGUMENT, TreeConfigurator::new, x -> x.setMandatory(0, true));
        Due.refusal("12 features", ARGUMENT, Models::full, x -> x.setMandatory(0, false));
    }

    static void promise3_feature1AndFeature11() {
        TreeConfigurator x = Models.flat(11);
        Due.answer("setMandatory(1, true)", x.setMandatory(1, true), false);
        Due.answer("setMandatory(11, true)", x.setMandatory(11, true), false);
        Due.answer("completions()", x.completions(), 512L);
        Due.answer("cheapest()", x.cheapest(), 0b100000000011);
        for (int feature = 2; feature < 11; feature++) {
            x.setMandatory(feature, true);
        }
        Due.answer("completions() with all", x.completions(), 1L);
        Due.answer("cheapest() with all", x.cheapest(), 4095);
    }

    static void promise3_noCompletion() {
        Due.refusal("a refused one", NONE, Models::decided, x -> x.setMandatory(5, true));
        Due.refusal("an excluded one", NONE, Models::decided, x -> x.setMandatory(3, true));
        Due.refusal("below none", NONE, FeatureTest::noneBelow, x -> x.setMandatory(1, true));
        Due.refusal("a second where one may be", NONE, FeatureTest::oneOfThree,
                x -> x.setMandatory(2, true));
        TreeConfigurator y = oneOfThree();
        y.setGroup(0, 0, 2);
        Due.answer("a second where two may be", y.setMandatory(2, true), false);
        Due.answer("a third", Due.thrownBy(() -> y.setMandatory(3, true)),
                "UnsupportedOperationException");
    }

    static void promise3_refusedCallLeavesItOptional() {
        TreeConfigurator x = Models.decided();
        Due.thrownBy(() -> x.setMandatory(5, true));
        Due.answer("setMandatory(5, false)", x.setMandatory(5, false), false);
        TreeConfigurator y = Models.flat(1);
        y.refuse(1);
        Due.thrownBy(() -> y.setMandatory(1, true));
        y.retract(1);
        Due.answer("the root alone", y.isConfiguration(1), true);
    }

    static void promise3_belowAnAbsentParent() {
        TreeConfigurator x = Models.chain(3);
        x.refuse(2);
        Due.answer("a refused one", x.setMandatory(2, true), false);
        Due.answer("stateOf(1)", x.stateOf(1), 'x');
        Due.answer("the root alone", x.isConfiguration(0b001), true);
        Due.answer("1 without it", x.isConfiguration(0b011), false);
    }

    private static TreeConfigurator noneBelow() {
        TreeConfigurator x = Models.flat(1);
        x.setGroup(0, 0, 0);
        return x;
    }

    private static TreeConfigurator oneOfThree() {
        TreeConfigurator x = Models.flat(3);
        x.setGroup(0, 0, 1);
        x.setMandatory(1, true);
        return x;
    }

    // setGroup

    static void promise4_tellsTheNumberOfChildren() {
        Due.answer("none, new", new TreeConfigurator().setGroup(0, 0, 12), 0);
        Due.answer("1", Models.chain(12).setGroup(10, 0, 12), 1);
        Due.answer("none, 11", Models.chain(12).setGroup(11, 0, 12), 0);
        Due.answer("11", Models.flat(11).setGroup(0, 0, 12), 11);
        TreeConfigurator x = Models.broom(10);
        Due.answer("10", x.setGroup(1, 0, 12), 10);
        x.refuse(2);
        Due.answer("10, one of them refused", x.setGroup(1, 0, 12), 10);
        Due.answer("children, not grandchildren", x.setGroup(0, 0, 12), 1);
    }

    static void promise4_noSuchFeature() {
        Outside.features("setGroup(f, 0, 12)", (x, feature) -> x.setGroup(feature, 0, 12));
    }

    static void promise4_least0IsTheLeast() {
        TreeConfigurator x = Models.flat(2);
        x.setGroup(0, 1, 2);
        Due.answer("the root alone, at least 1", x.isConfiguration(1), false);
        Due.answer("setGroup(0, 0, 2)", x.setGroup(0, 0, 2), 2);
        Due.answer("the root alone, at least 0", x.isConfiguration(1), true);
        Due.answer("setGroup(0, 0, 0)", x.setGroup(0, 0, 0), 2);
        Due.answer("completions()", x.completions(), 1L);
    }

    static void promise4_greatest12IsTheGreatest() {
        TreeConfigurator x = Models.flat(11);
        Due.answer("setGroup(0, 11, 12)", x.setGroup(0, 11, 12), 11);
        Due.answer("completions() of 11", x.completions(), 1L);
        Due.answer("setGroup(0, 0, 11)", x.setGroup(0, 0, 11), 11);
        Due.answer("completions() of 0 to 11", x.completions(), 2048L);
        Due.answer("setGroup(0, 0, 10)", x.setGroup(0, 0, 10), 11);
        Due.answer("completions() of 0 to 10", x.completions(), 2047L);
        Due.answer("setGroup(11, 12, 12), a leaf", x.setGroup(11, 12, 12), 0);
        Due.answer("stateOf(11)", x.stateOf(11), 'x');
    }

    static void promise4_leastCanBeTheGreatest() {
        TreeConfigurator x = Models.flat(4);
        long[] due = {1, 4, 6, 4, 1};
        for (int number = 0; number <= 4; number++) {
            Due.answer("setGroup of just " + number, x.setGroup(0, number, number), 4);
            Due.answer("completions() of just " + number, x.completions(), due[number]);
        }
    }

    static void promise4_leastOutOfRange() {
        Outside.refuses("setGroup(1, least, 2)", ARGUMENT, Models::decided,
                (x, least) -> x.setGroup(1, least, 2),
                -1, 3, 12, 13, Integer.MAX_VALUE, Integer.MIN_VALUE);
        Outside.refuses("setGroup(0, least, 12), new", ARGUMENT, TreeConfigurator::new,
                (x, least) -> x.setGroup(0, least, 12), -1, 13);
    }

    static void promise4_greatestOutOfRange() {
        Outside.refuses("setGroup(1, 1, greatest)", ARGUMENT, Models::decided,
                (x, greatest) -> x.setGroup(1, 1, greatest),
                0, 13, -1, Integer.MAX_VALUE, Integer.MIN_VALUE);
        Outside.refuses("setGroup(3, 12, greatest)", ARGUMENT, Models::decided,
                (x, greatest) -> x.setGroup(3, 12, greatest), 11, 13);
    }

    static void promise4_bothOutOfRange() {
        Due.refusal("both below 0", ARGUMENT, Models::decided, x -> x.setGroup(1, -1, -1));
        Due.refusal("both beyond 12", ARGUMENT, Models::decided, x -> x.setGroup(1, 13, 13));
        Due.refusal("too wide", ARGUMENT, Models::decided, x -> x.setGroup(1, -1, 13));
        Due.refusal("turned round", ARGUMENT, Models::decided, x -> x.setGroup(1, 13, -1));
    }

    static void promise4_orderOfExceptions() {
        Due.refusal("no feature, least", INDEX, Models::decided, x -> x.setGroup(7, -1, 1));
        Due.refusal("no feature, greatest", INDEX, Models::decided, x -> x.setGroup(-1, 0, 13));
        Due.refusal("no feature, turned round", INDEX, Models::full, x -> x.setGroup(12, 2, 1));
        Due.refusal("range, no completion", ARGUMENT, Models::decided, x -> x.setGroup(0, 3, 2));
        Due.refusal("range, no completion", ARGUMENT, Models::decided, x -> x.setGroup(0, 12, 13));
        Due.refusal("range, no completion", ARGUMENT, Models::decided, x -> x.setGroup(0, -1, 0));
    }

    static void promise4_noCompletionByTheLeast() {
        TreeConfigurator x = Models.flat(4);
        x.refuse(4);
        Due.answer("as many as can be in", x.setGroup(0, 3, 12), 4);
        Due.refusal("one more", NONE, FeatureTest::oneOfFourRefused, y -> y.setGroup(0, 4, 12));
        Due.refusal("one more, bicycle", NONE, Models::bicycle, y -> y.setGroup(0, 3, 3));
        Due.refusal("a leaf of two levels", NONE, Models::decided, y -> y.setGroup(6, 1, 1));
        Due.refusal("one feature", NONE, TreeConfigurator::new, y -> y.setGroup(0, 1, 12));
        Due.refusal("12 features", NONE, Models::full, y -> y.setGroup(0, 12, 12));
        Due.answer("11 of 11", Models.full().setGroup(0, 11, 12), 11);
    }

    static void promise4_noCompletionByTheGreatest() {
        TreeConfigurator x = Models.flat(4);
        x.choose(1);
        x.setMandatory(2, true);
        Due.answer("as many as have to be in", x.setGroup(0, 0, 2), 4);
        Due.answer("one less", Due.thrownBy(() -> x.setGroup(0, 0, 1)),
                "UnsupportedOperationException");
        Due.refusal("none where one is chosen", NONE, Models::decided, y -> y.setGroup(2, 0, 0));
        Due.refusal("none where one is mandatory", NONE, Models::bicycle,
                y -> y.setGroup(0, 0, 0));
    }

    static void promise4_refusedCallLeavesBothNumbers() {
        TreeConfigurator x = Models.flat(4);
        x.setGroup(0, 1, 2);
        Due.thrownBy(() -> x.setGroup(0, 5, 12));
        Due.thrownBy(() -> x.setGroup(0, 3, 1));
        Due.thrownBy(() -> x.setGroup(0, 0, 13));
        Due.answer("no child", x.isConfiguration(0b00001), false);
        Due.answer("one child", x.isConfiguration(0b00011), true);
        Due.answer("two children", x.isConfiguration(0b00111), true);
        Due.answer("three children", x.isConfiguration(0b01111), false);
        Due.answer("completions()", x.completions(), 10L);
    }

    private static TreeConfigurator oneOfFourRefused() {
        TreeConfigurator x = Models.flat(4);
        x.refuse(4);
        return x;
    }
}
