import java.util.function.BiConsumer;
import java.util.function.ToIntFunction;

/** Promises 22 to 26, the layers and price; and the terms of the layers. */
public final class LayerTest {
    private static final Class<IndexOutOfBoundsException> INDEX = IndexOutOfBoundsException.class;
    private static final Class<IllegalArgumentException> ARGUMENT = IllegalArgumentException.class;
    private static final Class<IllegalStateException> STATE = IllegalStateException.class;
    private static final int[] BEYOND_999 = {-1, 1000, -999, Integer.MAX_VALUE, Integer.MIN_VALUE};

    public static void main(String[] args) throws IllegalAccessException {
        Cases.run(LayerTest.class);
    }

    // The terms

    static void terms_layersEachOnTopOfTheOneBefore() {
        TreeConfigurator x = Models.flat(2);
        x.addPercent(50);
        x.addSurcharge(0, 10);
        Due.answer("the percentage first", x.price(7), 15 + 30);
        TreeConfigurator y = Models.flat(2);
        y.addSurcharge(0, 10);
        y.addPercent(50);
        Due.answer("the surcharge first", y.price(7), 30);
        TreeConfigurator z = Models.flat(2);
        z.addBundle(1, 2, 5);
        z.addPercent(10);
        z.addBundle(1, 2, 5);
        Due.answer("a bundle below and above", z.price(7), 25 - 2 - 5);
    }

    static void terms_layersNoneAdded() {
        Due.answer("one feature", new TreeConfigurator().price(1), 0);
        Due.answer("12 features", Models.flat(11).price(4095), 660);
    }

    static void terms_layersSixAdded() {
        TreeConfigurator x = Models.flat(2);
        x.addSurcharge(1, 7);
        x.addPercent(50);
        x.addBundle(1, 2, 4);
        x.addPercent(25);
        x.addBundle(0, 1, 1);
        Due.answer("five", x.price(7), 22 - 4 - 4 - 1);
        Due.answer("a sixth", x.addSurcharge(2, 999), 7);
        Due.answer("six", x.price(7), 13 + 999);
        Due.answer("a seventh", Due.thrownBy(() -> x.addPercent(0)), "IllegalStateException");
    }

    static void terms_layersHighestAndLowestPrice() {
        TreeConfigurator x = new TreeConfigurator();
        TreeConfigurator y = new TreeConfigurator();
        for (int feature = 1; feature < 12; feature++) {
            x.addFeature(0, 999);
            y.addFeature(0, 0);
        }
        for (int layer = 0; layer < 6; layer++) {
            x.addSurcharge(0, 999);
            y.addBundle(0, 0, 999);
        }
        Due.answer("the highest price", x.price(4095), 11 * 999 + 6 * 12 * 999);
        Due.answer("the lowest price", y.price(4095), -6 * 999);
        Due.answer("the lowest price of a completion", y.price(y.cheapest()), -6 * 999);
    }

    // addBundle

    static void promise22_ifBothAreInTheSet() {
        TreeConfigurator x = Models.flat(3);
        Due.answer("addBundle(1, 3, 15)", x.addBundle(1, 3, 15), 2);
        Due.answer("both", x.price(0b1011), 25);
        Due.answer("the first alone", x.price(0b0011), 10);
        Due.answer("the second alone", x.price(0b1001), 30);
        Due.answer("both without the root", x.price(0b1010), 25);
        Due.answer("neither", x.price(0b0101), 20);
        Due.answer("no feature", x.price(0), 0);
    }

    static void promise22_rootAndFeature11() {
        TreeConfigurator x = Models.flat(11);
        Due.answer("addBundle(0, 11, 1)", x.addBundle(0, 11, 1), 2);
        Due.answer("both", x.price(2049), 109);
        Due.answer("without the root", x.price(2048), 110);
        Due.answer("without 11", x.price(1025), 100);
        Due.answer("addBundle(11, 0, 2)", x.addBundle(11, 0, 2), 3);
        Due.answer("both, twice", x.price(2049), 107);
        Due.answer("one feature", new TreeConfigurator().addBundle(0, 0, 1), 2);
    }

    static void promise22_theSameTwice() {
        TreeConfigurator x = Models.flat(2);
        Due.answer("addBundle(2, 2, 7)", x.addBundle(2, 2, 7), 2);
        Due.answer("with 2", x.price(0b101), 13);
        Due.answer("without 2", x.price(0b011), 10);
    }

    static void promise22_discountFrom0To999() {
        TreeConfigurator x = Models.flat(2);
        Due.answer("addBundle(1, 2, 0)", x.addBundle(1, 2, 0), 2);
        Due.answer("0 off", x.price(7), 30);
        Due.answer("addBundle(1, 2, 999)", x.addBundle(1, 2, 999), 3);
        Due.answer("999 off", x.price(7), -969);
    }

    static void promise22_discountOutOfRange() {
        Outside.refuses("addBundle(1, 2, d)", ARGUMENT, Models::decided,
                (x, discount) -> x.addBundle(1, 2, discount), BEYOND_999);
        Outside.refuses("addBundle(0, 0, d), new", ARGUMENT, TreeConfigurator::new,
                (x, discount) -> x.addBundle(0, 0, discount), BEYOND_999);
    }

    static void promise22_noSuchFeature() {
        Outside.features("addBundle(f, 0, 1)", (x, feature) -> x.addBundle(feature, 0, 1));
        Outside.features("addBundle(0, f, 1)", (x, feature) -> x.addBundle(0, feature, 1));
    }

    static void promise22_sixLayersWereAdded() {
        Due.refusal("a seventh", STATE, Models::full, x -> x.addBundle(1, 2, 1));
        sixthAfterRemoving(x -> x.addBundle(0, 1, 999), 760 - 5 - 999);
    }

    static void promise22_orderOfExceptions() {
        Due.refusal("no feature, discount", INDEX, Models::decided, x -> x.addBundle(-1, 1, -1));
        Due.refusal("no feature, discount", INDEX, Models::decided, x -> x.addBundle(1, 7, 1000));
        Due.refusal("no feature, six", INDEX, Models::full, x -> x.addBundle(12, 2, 1));
        Due.refusal("no feature, six", INDEX, Models::full, x -> x.addBundle(2, 12, 1));
        Due.refusal("all three", INDEX, Models::full, x -> x.addBundle(2, -1, -1));
        Due.refusal("discount, six", ARGUMENT, Models::full, x -> x.addBundle(1, 2, -1));
        Due.refusal("discount, six", ARGUMENT, Models::full, x -> x.addBundle(1, 2, 1000));
    }

    // addPercent

    static void promise23_roundedToward0() {
        TreeConfigurator x = Models.flat(0);
        x.addFeature(0, 199);
        Due.answer("addPercent(50)", x.addPercent(50), 2);
        Due.answer("199 less 99", x.price(3), 100);
        x.removeLayer();
        x.addBundle(0, 1, 398);
        Due.answer("addPercent(50) of less than 0", x.addPercent(50), 3);
        Due.answer("-199 less -99", x.price(3), -100);
        TreeConfigurator y = Models.flat(0);
        y.addFeature(0, 99);
        y.addPercent(1);
        Due.answer("99 less 0", y.price(3), 99);
        y.removeLayer();
        y.addPercent(99);
        Due.answer("99 less 98", y.price(3), 1);
        y.addBundle(0, 1, 2);
        y.addPercent(99);
        Due.answer("-1 less 0", y.price(3), -1);
    }

    static void promise23_percentFrom0To100() {
        TreeConfigurator x = Models.flat(2);
        Due.answer("addPercent(0)", x.addPercent(0), 2);
        Due.answer("0 off", x.price(7), 30);
        Due.answer("addPercent(1)", x.addPercent(1), 3);
        Due.answer("1 off", x.price(7), 30);
        Due.answer("addPercent(99)", x.addPercent(99), 4);
        Due.answer("99 off", x.price(7), 1);
        Due.answer("addPercent(100)", x.addPercent(100), 5);
        Due.answer("all off", x.price(7), 0);
        TreeConfigurator y = Models.flat(2);
        y.addBundle(1, 2, 999);
        y.addPercent(100);
        Due.answer("all off what is less than 0", y.price(7), 0);
    }

    static void promise23_outOfRange() {
        int[] beyond = {-1, 101, -100, 200, Integer.MAX_VALUE, Integer.MIN_VALUE};
        BiConsumer<TreeConfigurator, Integer> call = TreeConfigurator::addPercent;
        Outside.refuses("addPercent", ARGUMENT, Models::decided, call, beyond);
        Outside.refuses("addPercent, new", ARGUMENT, TreeConfigurator::new, call, beyond);
    }

    static void promise23_sixLayersWereAdded() {
        Due.refusal("a seventh", STATE, Models::full, x -> x.addPercent(0));
        Due.refusal("a seventh", STATE, Models::full, x -> x.addPercent(100));
        sixthAfterRemoving(x -> x.addPercent(100), 0);
    }

    static void promise23_orderOfExceptions() {
        Due.refusal("too small, six", ARGUMENT, Models::full, x -> x.addPercent(-1));
        Due.refusal("too large, six", ARGUMENT, Models::full, x -> x.addPercent(101));
    }

    // addSurcharge

    static void promise24_forEachFeatureBeyondTheNumber() {
        TreeConfigurator x = Models.flat(3);
        Due.answer("addSurcharge(2, 7)", x.addSurcharge(2, 7), 2);
        Due.answer("no feature", x.price(0), 0);
        Due.answer("one feature", x.price(0b0001), 0);
        Due.answer("two features", x.price(0b0011), 10);
        Due.answer("three features", x.price(0b0111), 37);
        Due.answer("four features", x.price(0b1111), 74);
        Due.answer("three without the root", x.price(0b1110), 67);
    }

    static void promise24_numberFrom0To12() {
        TreeConfigurator x = Models.flat(11);
        Due.answer("addSurcharge(0, 1)", x.addSurcharge(0, 1), 2);
        Due.answer("no feature beyond 0", x.price(0), 0);
        Due.answer("the root beyond 0", x.price(1), 1);
        Due.answer("12 beyond 0", x.price(4095), 672);
        x.removeLayer();
        Due.answer("addSurcharge(11, 1)", x.addSurcharge(11, 1), 2);
        Due.answer("11 beyond 11", x.price(4094), 660);
        Due.answer("12 beyond 11", x.price(4095), 661);
        x.removeLayer();
        Due.answer("addSurcharge(12, 1)", x.addSurcharge(12, 1), 2);
        Due.answer("12 beyond 12", x.price(4095), 660);
    }

    static void promise24_amountFrom0To999() {
        TreeConfigurator x = Models.flat(1);
        Due.answer("addSurcharge(0, 0)", x.addSurcharge(0, 0), 2);
        Due.answer("0 for each of two", x.price(3), 10);
        Due.answer("addSurcharge(0, 999)", x.addSurcharge(0, 999), 3);
        Due.answer("999 for each of two", x.price(3), 10 + 2 * 999);
    }

    static void promise24_outOfRange() {
        Outside.refuses("addSurcharge(number, 1)", ARGUMENT, Models::decided,
                (x, number) -> x.addSurcharge(number, 1),
                -1, 13, -12, 999, Integer.MAX_VALUE, Integer.MIN_VALUE);
        Outside.refuses("addSurcharge(1, amount)", ARGUMENT, Models::decided,
                (x, amount) -> x.addSurcharge(1, amount), BEYOND_999);
        Due.refusal("both", ARGUMENT, Models::decided, x -> x.addSurcharge(13, 1000));
        Due.refusal("both, new", ARGUMENT, TreeConfigurator::new, x -> x.addSurcharge(-1, -1));
    }

    static void promise24_sixLayersWereAdded() {
        Due.refusal("a seventh", STATE, Models::full, x -> x.addSurcharge(0, 0));
        Due.refusal("a seventh", STATE, Models::full, x -> x.addSurcharge(12, 999));
        sixthAfterRemoving(x -> x.addSurcharge(11, 999), 760 - 5 + 999);
    }

    static void promise24_orderOfExceptions() {
        Due.refusal("number, six", ARGUMENT, Models::full, x -> x.addSurcharge(13, 1));
        Due.refusal("number, six", ARGUMENT, Models::full, x -> x.addSurcharge(-1, 1));
        Due.refusal("amount, six", ARGUMENT, Models::full, x -> x.addSurcharge(1, 1000));
        Due.refusal("amount, six", ARGUMENT, Models::full, x -> x.addSurcharge(1, -1));
    }

    /** Where a layer of six was removed another fits, and it tells the price then. */
    private static void sixthAfterRemoving(ToIntFunction<TreeConfigurator> call, int due) {
        TreeConfigurator x = Models.flat(11);
        x.addSurcharge(2, 10);
        for (int layer = 1; layer < 6; layer++) {
            x.addBundle(1, 11, 1);
        }
        Due.answer("six layers", Due.thrownBy(() -> call.applyAsInt(x)), "IllegalStateException");
        x.removeLayer();
        x.removeLayer();
        x.addBundle(1, 11, 2);
        Due.answer("the sixth again", call.applyAsInt(x), 7);
        Due.answer("what it tells", x.price(4095), due);
        Due.answer("a seventh", Due.thrownBy(() -> call.applyAsInt(x)), "IllegalStateException");
    }

    // removeLayer

    static void promise25_from6To0Added() {
        TreeConfigurator x = Models.full();
        for (int left = 6; left >= 1; left--) {
            Due.answer("removeLayer()", x.removeLayer(), left);
        }
        Due.answer("none left", Due.thrownBy(x::removeLayer), "IllegalStateException");
    }

    static void promise25_theTopLayer() {
        TreeConfigurator x = Models.flat(2);
        x.addSurcharge(0, 1);
        x.addPercent(50);
        x.addBundle(1, 2, 5);
        Due.answer("three layers", x.price(7), 12);
        Due.answer("removeLayer()", x.removeLayer(), 3);
        Due.answer("without the bundle", x.price(7), 17);
        Due.answer("removeLayer() again", x.removeLayer(), 2);
        Due.answer("without the percentage", x.price(7), 33);
        Due.answer("another layer on top", x.addPercent(100), 3);
        Due.answer("all off", x.price(7), 0);
        x.removeLayer();
        Due.answer("the last removeLayer()", x.removeLayer(), 1);
        Due.answer("the sum", x.price(7), 30);
    }

    static void promise25_noLayerWasAdded() {
        Due.refusal("two children", STATE, () -> Models.flat(2), TreeConfigurator::removeLayer);
        Due.refusal("one feature", STATE, TreeConfigurator::new, TreeConfigurator::removeLayer);
        TreeConfigurator x = Models.flat(2);
        Due.thrownBy(x::removeLayer);
        Due.thrownBy(x::removeLayer);
        Due.answer("addPercent(100) then", x.addPercent(100), 2);
        Due.answer("all off", x.price(7), 0);
    }

    // price

    static void promise26_aConfigurationOrNot() {
        TreeConfigurator x = Models.decided();
        Due.answer("a configuration", x.price(0b1010111), 175);
        Due.answer("no configuration", x.price(0b1001101), 100 - 15 - 40);
    }

    static void promise26_set0IsTheLeast() {
        Due.answer("one feature", new TreeConfigurator().price(0), 0);
        Due.answer("7 features", Models.decided().price(0), 0);
        Due.answer("12 features", Models.full().price(0), 0);
    }

    static void promise26_allFeaturesIsTheGreatest() {
        Due.answer("one feature", new TreeConfigurator().price(1), 0);
        Due.answer("7 features", Models.decided().price(127), 215 - 40);
        Due.answer("12 features", Models.full().price(4095), 660 + 12 + 11 + 10 + 9 + 8 + 7);
    }

    static void promise26_canBeLessThan0() {
        TreeConfigurator x = Models.flat(1);
        x.addBundle(0, 1, 11);
        Due.answer("just less than 0", x.price(3), -1);
        x.removeLayer();
        x.addBundle(0, 1, 10);
        Due.answer("just 0", x.price(3), 0);
    }

    static void promise26_lessThan0OrAFeatureThatThereIsNot() {
        Outside.sets("price", TreeConfigurator::price);
    }
}
