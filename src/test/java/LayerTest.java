/** Promises 22 to 26: the layers and price. */
public final class LayerTest {
    private static final Class<IndexOutOfBoundsException> INDEX = IndexOutOfBoundsException.class;
    private static final Class<IllegalArgumentException> ARGUMENT = IllegalArgumentException.class;
    private static final Class<IllegalStateException> STATE = IllegalStateException.class;

    public static void main(String[] args) {
        bundles();
        percents();
        surcharges();
        order();
        removing();
        bundleRefused();
        otherLayersRefused();
        prices();
        Due.end();
    }

    private static void bundles() {
        TreeConfigurator x = Models.flat(3);
        Due.answer("addBundle(1, 3, 15)", x.addBundle(1, 3, 15), 2);
        Due.answer("both", x.price(0b1011), 25);
        Due.answer("the first alone", x.price(0b0011), 10);
        Due.answer("the second alone", x.price(0b1001), 30);
        Due.answer("both without the root", x.price(0b1010), 25);
        Due.answer("neither", x.price(0b0101), 20);
        Due.answer("addBundle(2, 2, 999)", x.addBundle(2, 2, 999), 3);
        Due.answer("less than 0", x.price(0b0101), -979);
        Due.answer("without 2", x.price(0b0001), 0);
        Due.answer("addBundle(0, 1, 0)", x.addBundle(0, 1, 0), 4);
        Due.answer("0 off", x.price(0b0011), 10);
        Due.answer("addBundle(3, 0, 1)", x.addBundle(3, 0, 1), 5);
        Due.answer("with the root", x.price(0b1001), 29);
        Due.answer("without the root", x.price(0b1000), 30);
    }

    private static void percents() {
        TreeConfigurator x = new TreeConfigurator();
        x.addFeature(0, 199);
        Due.answer("addPercent(50)", x.addPercent(50), 2);
        Due.answer("half of 199", x.price(3), 100);
        Due.answer("addBundle(0, 1, 299)", x.addBundle(0, 1, 299), 3);
        Due.answer("100 less 299", x.price(3), -199);
        Due.answer("addPercent(50) of less than 0", x.addPercent(50), 4);
        Due.answer("half of -199, toward 0", x.price(3), -100);
        Due.answer("addPercent(0)", x.addPercent(0), 5);
        Due.answer("0 off", x.price(3), -100);
        Due.answer("addPercent(100)", x.addPercent(100), 6);
        Due.answer("all off", x.price(3), 0);
        TreeConfigurator small = new TreeConfigurator();
        small.addFeature(0, 99);
        small.addPercent(1);
        Due.answer("1 of 99", small.price(3), 99);
        small.addPercent(99);
        Due.answer("99 of 99", small.price(3), 1);
    }

    private static void surcharges() {
        TreeConfigurator x = Models.flat(3);
        Due.answer("addSurcharge(2, 7)", x.addSurcharge(2, 7), 2);
        Due.answer("one feature", x.price(0b0001), 0);
        Due.answer("two features", x.price(0b0011), 10);
        Due.answer("three features", x.price(0b0111), 37);
        Due.answer("four features", x.price(0b1111), 74);
        Due.answer("three without the root", x.price(0b1110), 67);
        Due.answer("addSurcharge(0, 999)", x.addSurcharge(0, 999), 3);
        Due.answer("no feature", x.price(0), 0);
        Due.answer("the root", x.price(1), 999);
        Due.answer("addSurcharge(12, 999)", x.addSurcharge(12, 999), 4);
        Due.answer("beyond 12", x.price(0b1111), 74 + 4 * 999);
        Due.answer("addSurcharge(4, 0)", x.addSurcharge(4, 0), 5);
        Due.answer("the highest prices", highest(), 11 * 999 + 6 * 12 * 999);
    }

    private static int highest() {
        TreeConfigurator x = new TreeConfigurator();
        for (int feature = 1; feature < 12; feature++) {
            x.addFeature(0, 999);
        }
        for (int layer = 0; layer < 6; layer++) {
            x.addSurcharge(0, 999);
        }
        return x.price(4095);
    }

    private static void order() {
        TreeConfigurator x = Models.flat(2);
        x.addPercent(50);
        x.addSurcharge(0, 10);
        Due.answer("the percentage first", x.price(7), 15 + 30);
        TreeConfigurator y = Models.flat(2);
        y.addSurcharge(0, 10);
        y.addPercent(50);
        Due.answer("the surcharge first", y.price(7), 30);
        TreeConfigurator z = Models.flat(2);
        z.addBundle(1, 2, 5);
        z.addPercent(10);
        z.addBundle(1, 2, 5);
        Due.answer("a bundle below and above", z.price(7), 25 - 2 - 5);
    }

    private static void removing() {
        TreeConfigurator x = Models.flat(2);
        x.addSurcharge(0, 1);
        x.addPercent(50);
        x.addBundle(1, 2, 5);
        Due.answer("three layers", x.price(7), 12);
        Due.answer("removeLayer()", x.removeLayer(), 3);
        Due.answer("without the bundle", x.price(7), 17);
        Due.answer("removeLayer() again", x.removeLayer(), 2);
        Due.answer("without the percentage", x.price(7), 33);
        Due.answer("another layer on top", x.addPercent(100), 3);
        Due.answer("all off", x.price(7), 0);
        x.removeLayer();
        Due.answer("the last removeLayer()", x.removeLayer(), 1);
        Due.answer("the sum", x.price(7), 30);
        Due.answer("none left", Due.thrownBy(x::removeLayer), "IllegalStateException");
        Due.refusal("removeLayer()", STATE, () -> Models.flat(2), TreeConfigurator::removeLayer);
        Due.answer("removeLayer() of 7", Models.full().removeLayer(), 6);
    }

    private static void bundleRefused() {
        Due.refusal("addBundle(7, 1, 1)", INDEX, Models::decided, x -> x.addBundle(7, 1, 1));
        Due.refusal("addBundle(1, 7, 1)", INDEX, Models::decided, x -> x.addBundle(1, 7, 1));
        Due.refusal("addBundle(-1, 1, -1)", INDEX, Models::decided, x -> x.addBundle(-1, 1, -1));
        Due.refusal("addBundle(1, -1, 1)", INDEX, Models::decided, x -> x.addBundle(1, -1, 1));
        Due.refusal("addBundle(1, 2, -1)", ARGUMENT, Models::decided, x -> x.addBundle(1, 2, -1));
        Due.refusal("addBundle(1, 2, 1000)", ARGUMENT, Models::decided,
                x -> x.addBundle(1, 2, 1000));
        Due.refusal("addBundle(12, 2, 1), full", INDEX, Models::full, x -> x.addBundle(12, 2, 1));
        Due.refusal("addBundle(1, 2, -1), full", ARGUMENT, Models::full,
                x -> x.addBundle(1, 2, -1));
        Due.refusal("addBundle(1, 2, 1), full", STATE, Models::full, x -> x.addBundle(1, 2, 1));
    }

    private static void otherLayersRefused() {
        Due.refusal("addPercent(-1)", ARGUMENT, Models::decided, x -> x.addPercent(-1));
        Due.refusal("addPercent(101)", ARGUMENT, Models::decided, x -> x.addPercent(101));
        Due.refusal("addPercent(101), full", ARGUMENT, Models::full, x -> x.addPercent(101));
        Due.refusal("addPercent(1), full", STATE, Models::full, x -> x.addPercent(1));
        Due.refusal("addSurcharge(-1, 1)", ARGUMENT, Models::decided, x -> x.addSurcharge(-1, 1));
        Due.refusal("addSurcharge(13, 1)", ARGUMENT, Models::decided, x -> x.addSurcharge(13, 1));
        Due.refusal("addSurcharge(1, -1)", ARGUMENT, Models::decided, x -> x.addSurcharge(1, -1));
        Due.refusal("addSurcharge(1, 1000)", ARGUMENT, Models::decided,
                x -> x.addSurcharge(1, 1000));
        Due.refusal("addSurcharge(13, 1), full", ARGUMENT, Models::full,
                x -> x.addSurcharge(13, 1));
        Due.refusal("addSurcharge(1, 1), full", STATE, Models::full, x -> x.addSurcharge(1, 1));
        TreeConfigurator x = Models.full();
        x.removeLayer();
        Due.answer("addSurcharge(12, 999) after removeLayer()", x.addSurcharge(12, 999), 7);
    }

    private static void prices() {
        TreeConfigurator x = Models.decided();
        Due.answer("a configuration", x.price(0b1010111), 175);
        Due.answer("no configuration", x.price(0b1001101), 100 - 15 - 40);
        Due.answer("nothing", x.price(0), 0);
        Due.refusal("price(-1)", ARGUMENT, Models::decided, y -> y.price(-1));
        Due.refusal("price(128)", ARGUMENT, Models::decided, y -> y.price(128));
        Due.refusal("price(4096)", ARGUMENT, Models::full, y -> y.price(4096));
        Due.refusal("price(min)", ARGUMENT, Models::full, y -> y.price(Integer.MIN_VALUE));
        Due.refusal("price(2), new", ARGUMENT, TreeConfigurator::new, y -> y.price(2));
    }
}
