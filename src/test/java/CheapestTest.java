/** Promises 27 to 29: cheapest, cheapestByAll and complete. */
public final class CheapestTest {
    public static void main(String[] args) {
        cheapest();
        order();
        completing();
        Due.end();
    }

    private static void cheapest() {
        both("the bicycle", Models.bicycle(), 0b0100011);
        both("the decided bicycle", Models.decided(), 0b1010111);
        both("one feature", new TreeConfigurator(), 1);
        both("the full one", Models.full(), 1);
        TreeConfigurator x = Models.flat(3);
        x.addBundle(1, 3, 100);
        both("a bundle below 0", x, 0b1011);
        x.refuse(1);
        both("without 1", x, 0b0001);
        x.choose(3);
        both("with 3", x, 0b1001);
        TreeConfigurator y = Models.flat(11);
        y.setGroup(0, 3, 3);
        both("the cheapest 3 of 11", y, 0b1111);
        y.addSurcharge(12, 999);
        y.choose(11);
        both("11 and the cheapest 2", y, 0b100000000111);
    }

    private static void order() {
        TreeConfigurator x = new TreeConfigurator();
        x.addFeature(0, 10);
        x.addFeature(0, 5);
        x.addFeature(0, 5);
        x.any(1, 2, 3);
        both("5 alone, the lower set", x, 0b0101);
        x.refuse(1);
        both("the lower set of 2 and 3", x, 0b0101);
        x.retract(1);
        x.setGroup(0, 1, 2);
        x.exclude(2, 0);
        both("the price before the number", x, 0b1001);
        TreeConfigurator y = new TreeConfigurator();
        y.addFeature(0, 5);
        y.addFeature(0, 5);
        y.addFeature(0, 10);
        y.addPercent(0);
        y.require(1, 2);
        y.require(2, 1);
        y.any(1, 2, 3);
        both("fewer features before the lower set", y, 0b1001);
        TreeConfigurator free = Models.flat(3);
        free.addPercent(100);
        both("all at 0: the fewest features", free, 1);
        free.setGroup(0, 2, 3);
        both("all at 0: two features", free, 0b0111);
        free.refuse(1);
        both("all at 0: without 1", free, 0b1101);
    }

    private static void both(String which, TreeConfigurator x, int want) {
        Due.answer("cheapest() of " + which, x.cheapest(), want);
        Due.answer("cheapestByAll() of " + which, x.cheapestByAll(), want);
    }

    private static void completing() {
        TreeConfigurator x = Models.bicycle();
        x.choose(2);
        Due.answer("cheapest()", x.cheapest(), 0b0001111);
        Due.answer("complete()", x.complete(), 140);
        Due.answer("the line", Probe.line(x), "0o+ 1d+ 2d+ 3d+ 4d- 5d- 6d-");
        Due.answer("stateOf(2)", x.stateOf(2), 'c');
        Due.answer("stateOf(6)", x.stateOf(6), 'r');
        Due.answer("completions()", x.completions(), 1L);
        Due.answer("unknown()", x.unknown(), 0);
        Due.answer("complete() again", x.complete(), 140);
        Due.answer("retract(0)", Due.thrownBy(() -> x.retract(0)), "IllegalStateException");
        Due.answer("retractAll()", x.retractAll(), 6);
        TreeConfigurator y = Models.flat(2);
        y.addBundle(0, 1, 100);
        Due.answer("complete() below 0", y.complete(), -90);
        Due.answer("its line", Probe.line(y), "0o+ 1d+ 2d-");
        TreeConfigurator full = Models.full();
        Due.answer("complete() of the full one", full.complete(), 1);
        Due.answer("its decisions", full.retractAll(), 11);
    }
}
