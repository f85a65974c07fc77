import java.util.function.ToIntFunction;

/** Promises 27 to 29, cheapest, cheapestByAll and complete; and the terms of the order. */
public final class CheapestTest {
    public static void main(String[] args) throws IllegalAccessException {
        Cases.run(CheapestTest.class);
    }

    private static void both(String which, TreeConfigurator x, int due) {
        Due.answer("cheapest() of " + which, x.cheapest(), due);
        Due.answer("cheapestByAll() of " + which, x.cheapestByAll(), due);
    }

    // The terms

    static void terms_orderTheLowerPrice() {
        TreeConfigurator x = Models.flat(0);
        x.addFeature(0, 5);
        x.addFeature(0, 4);
        x.addFeature(0, 2);
        x.addFeature(0, 1);
        x.any(1, 2, 3);
        x.require(3, 4);
        x.exclude(2, 0);
        both("3 for two features, 5 for one", x, 0b11001);
        x.lift(2);
        x.addBundle(0, 2, 1);
        both("3 for one feature, 3 for two", x, 0b00101);
        x.removeLayer();
        both("3 for two features, 4 for one", x, 0b11001);
    }

    static void terms_orderWithTheSamePriceFewerFeatures() {
        TreeConfigurator x = Models.flat(0);
        x.addFeature(0, 5);
        x.addFeature(0, 5);
        x.addFeature(0, 10);
        x.require(1, 2);
        x.require(2, 1);
        x.any(1, 2, 3);
        both("10 for one feature with a higher number", x, 0b1001);
        TreeConfigurator free = Models.flat(11);
        free.addPercent(100);
        both("all for nothing", free, 1);
        free.setGroup(0, 10, 11);
        both("10 of 11 for nothing", free, 2047);
    }

    static void terms_orderWithEquallyManyTheLowerNumber() {
        TreeConfigurator x = Models.flat(0);
        for (int feature = 1; feature < 12; feature++) {
            x.addFeature(0, 7);
        }
        x.setGroup(0, 1, 12);
        both("one of 11", x, 0b11);
        x.refuse(1);
        both("one of 10", x, 0b101);
        x.choose(11);
        both("11 alone", x, 0b100000000001);
        x.setGroup(0, 2, 12);
        both("11 and one of 9", x, 0b100000000101);
        TreeConfigurator y = Models.flat(4);
        y.addPercent(100);
        y.any(2, 3, 4);
        y.exclude(0, 1);
        y.exclude(0, 2);
        both("3 before 4", y, 0b01001);
    }

    // cheapest and cheapestByAll

    static void promise27_oneFeatureAnd12() {
        Due.answer("one feature", new TreeConfigurator().cheapest(), 1);
        Due.answer("the full one", Models.full().cheapest(), 1);
        Due.answer("the full one, decided", Models.fullAndDecided().cheapest(), 0b101);
        TreeConfigurator x = Models.chain(12);
        x.choose(11);
        Due.answer("all 12", x.cheapest(), 4095);
    }

    static void promise28_oneFeatureAnd12() {
        Due.answer("one feature", new TreeConfigurator().cheapestByAll(), 1);
        Due.answer("the full one", Models.full().cheapestByAll(), 1);
        Due.answer("the full one, decided", Models.fullAndDecided().cheapestByAll(), 0b101);
        TreeConfigurator x = Models.chain(12);
        x.choose(11);
        Due.answer("all 12", x.cheapestByAll(), 4095);
    }

    static void promise27_justOneCompletion() {
        Due.answer("the decided bicycle", Models.decided().cheapest(), 0b1010111);
    }

    static void promise28_justOneCompletion() {
        Due.answer("the decided bicycle", Models.decided().cheapestByAll(), 0b1010111);
    }

    static void promise27_byAllLayers() {
        byAllLayers(TreeConfigurator::cheapest);
    }

    static void promise28_byAllLayers() {
        byAllLayers(TreeConfigurator::cheapestByAll);
    }

    private static void byAllLayers(ToIntFunction<TreeConfigurator> call) {
        Due.answer("the bicycle", call.applyAsInt(Models.bicycle()), 0b0100011);
        TreeConfigurator x = Models.flat(3);
        x.addBundle(1, 3, 41);
        Due.answer("a bundle just below 0", call.applyAsInt(x), 0b1011);
        x.removeLayer();
        x.addBundle(1, 3, 40);
        Due.answer("a bundle at 0", call.applyAsInt(x), 0b0001);
        x.removeLayer();
        x.addBundle(1, 3, 100);
        x.refuse(1);
        Due.answer("without 1", call.applyAsInt(x), 0b0001);
        x.choose(3);
        Due.answer("with 3", call.applyAsInt(x), 0b1001);
        TreeConfigurator y = Models.flat(3);
        y.addBundle(1, 3, 41);
        y.addSurcharge(1, 1);
        Due.answer("a surcharge that is more", call.applyAsInt(y), 0b0001);
        y.addPercent(100);
        Due.answer("a percentage on top", call.applyAsInt(y), 0b0001);
    }

    // complete

    static void promise29_takesAllDecisions() {
        TreeConfigurator x = Models.bicycle();
        x.choose(2);
        Due.answer("cheapest()", x.cheapest(), 0b0001111);
        Due.answer("complete()", x.complete(), 140);
        Due.answer("the line", Probe.line(x), "0o+ 1d+ 2d+ 3d+ 4d- 5d- 6d-");
        Due.answer("stateOf(2)", x.stateOf(2), 'c');
        Due.answer("stateOf(6)", x.stateOf(6), 'r');
        Due.answer("completions()", x.completions(), 1L);
        Due.answer("unknown()", x.unknown(), 0);
    }

    static void promise29_notTheRoot() {
        TreeConfigurator x = Models.flat(2);
        x.complete();
        Due.answer("retract(0)", Due.thrownBy(() -> x.retract(0)), "IllegalStateException");
        Due.answer("stateOf(0)", x.stateOf(0), 'a');
        Due.answer("reasonOf(0)", x.reasonOf(0), 'o');
        Due.answer("retractAll()", x.retractAll(), 2);
    }

    static void promise29_oneFeature() {
        TreeConfigurator x = new TreeConfigurator();
        x.addSurcharge(0, 5);
        Due.answer("complete()", x.complete(), 5);
        Due.answer("retractAll()", x.retractAll(), 0);
    }

    static void promise29_twelveFeatures() {
        TreeConfigurator x = Models.full();
        Due.answer("complete()", x.complete(), 1);
        Due.answer("its decisions", x.retractAll(), 11);
        x.choose(11);
        Due.answer("complete() with 11", x.complete(), 110 + 2 + 1);
        Due.answer("stateOf(11)", x.stateOf(11), 'c');
        Due.answer("stateOf(10)", x.stateOf(10), 'r');
        Due.answer("its decisions with 11", x.retractAll(), 11);
    }

    static void promise29_allDecidedAlready() {
        TreeConfigurator x = Models.flat(2);
        x.choose(2);
        x.refuse(1);
        Due.answer("complete()", x.complete(), 20);
        Due.answer("complete() again", x.complete(), 20);
        Due.answer("the line", Probe.line(x), "0o+ 1d- 2d+");
    }

    static void promise29_keepsTheDecisions() {
        TreeConfigurator x = Models.flat(3);
        x.addBundle(0, 1, 999);
        x.refuse(1);
        x.choose(3);
        Due.answer("complete()", x.complete(), 30);
        Due.answer("the line", Probe.line(x), "0o+ 1d- 2d- 3d+");
    }

    static void promise29_priceLessThan0() {
        TreeConfigurator x = Models.flat(2);
        x.addBundle(0, 1, 100);
        Due.answer("complete()", x.complete(), -90);
        Due.answer("the line", Probe.line(x), "0o+ 1d+ 2d-");
    }
}
