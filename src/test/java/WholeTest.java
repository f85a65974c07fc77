/** Promises 36 and 37: meanPrice and isSound. */
public final class WholeTest {
    public static void main(String[] args) throws IllegalAccessException {
        Cases.run(WholeTest.class);
    }

    // meanPrice

    static void promise36_oneCompletion() {
        Due.answer("one feature", new TreeConfigurator().meanPrice(), 0.0);
        Due.answer("the decided bicycle", Models.decided().meanPrice(), 175.0);
    }

    static void promise36_2048Completions() {
        Due.answer("11 children", Models.flat(11).meanPrice(), 330.0);
        TreeConfigurator x = new TreeConfigurator();
        for (int feature = 1; feature < 12; feature++) {
            x.addFeature(0, 999);
        }
        for (int layer = 0; layer < 6; layer++) {
            x.addSurcharge(0, 999);
        }
        Due.answer("the highest sum", x.meanPrice(), 999 * 5.5 + 6 * 999 * 6.5);
    }

    static void promise36_bothConvertedToDouble() {
        TreeConfigurator x = Models.flat(2);
        Due.answer("0, 10, 20 and 30", x.meanPrice(), 15.0);
        x.exclude(1, 2);
        Due.answer("0, 10 and 20", x.meanPrice(), 10.0);
        x.addSurcharge(1, 1);
        Due.answer("0, 11 and 21", x.meanPrice(), 32.0 / 3.0);
        x.refuse(1);
        Due.answer("0 and 21", x.meanPrice(), 10.5);
        x.choose(2);
        Due.answer("21", x.meanPrice(), 21.0);
    }

    static void promise36_lessThan0() {
        TreeConfigurator x = Models.flat(2);
        x.exclude(1, 2);
        x.addBundle(0, 1, 99);
        Due.answer("0, -89 and 20", x.meanPrice(), -69.0 / 3.0);
        x.addBundle(0, 2, 20);
        Due.answer("0, -89 and 0", x.meanPrice(), -89.0 / 3.0);
    }

    static void promise36_justCompletions() {
        TreeConfigurator x = Models.chain(4);
        Due.answer("0, 1, 2 and 3", x.meanPrice(), 1.5);
        x.setMandatory(2, true);
        Due.answer("0, 2 and 3", x.meanPrice(), 5.0 / 3.0);
        x.choose(3);
        Due.answer("3", x.meanPrice(), 3.0);
    }

    // isSound

    static void promise37_oneFeatureAnd12() {
        Due.answer("one feature", new TreeConfigurator().isSound(), true);
        Due.answer("the full one", Models.full().isSound(), true);
        Due.answer("the full one, decided", Models.fullAndDecided().isSound(), true);
        Due.answer("a chain of 12", Models.chain(12).isSound(), true);
    }

    static void promise37_decidedAndForced() {
        Due.answer("the bicycle", Models.bicycle().isSound(), true);
        Due.answer("the decided bicycle", Models.decided().isSound(), true);
        TreeConfigurator x = Models.full();
        x.complete();
        Due.answer("a complete one", x.isSound(), true);
        x.force(5, true);
        Due.answer("a forced one", x.isSound(), true);
    }

    static void promise37_whereDeductionSeesLess() {
        TreeConfigurator x = Models.flat(3);
        x.require(1, 2);
        x.require(1, 3);
        x.exclude(2, 3);
        Due.answer("1 is unknown, and in none", x.isSound(), true);
    }

    static void promise37_changesNothing() {
        TreeConfigurator x = Models.decided();
        x.isSound();
        Due.answer("the state", Probe.of(x), Probe.of(Models.decided()));
    }
}
