/** Objects that several tests start from. */
final class Models {
    private Models() {
    }

    /** The root and as many children of it, the n-th of them at the price of 10 n. */
    static TreeConfigurator flat(int children) {
        TreeConfigurator x = new TreeConfigurator();
        for (int child = 1; child <= children; child++) {
            x.addFeature(0, 10 * child);
        }
        return x;
    }

    /** Each feature is the parent of the next. */
    static TreeConfigurator chain(int features) {
        TreeConfigurator x = new TreeConfigurator();
        for (int feature = 1; feature < features; feature++) {
            x.addFeature(feature - 1, 1);
        }
        return x;
    }

    /** 1 below the root, and as many children of 1, from 2 on, all of them for nothing. */
    static TreeConfigurator broom(int children) {
        TreeConfigurator x = new TreeConfigurator();
        x.addFeature(0, 0);
        for (int child = 0; child < children; child++) {
            x.addFeature(1, 0);
        }
        return x;
    }

    /**
     * 1 and 2 below the root, 3 to 5 below 1 and 6 below 2; 1 is mandatory with one or two
     * children, 6 excludes 3 (rule 1), 2 requires 4 (rule 0, lifted), and there is a layer.
     */
    static TreeConfigurator bicycle() {
        TreeConfigurator x = new TreeConfigurator();
        x.addFeature(0, 100);
        x.addFeature(0, 50);
        x.addFeature(1, 30);
        x.addFeature(1, 20);
        x.addFeature(1, 10);
        x.addFeature(2, 5);
        x.setMandatory(1, true);
        x.setGroup(1, 1, 2);
        x.require(2, 4);
        x.exclude(6, 3);
        x.lift(0);
        x.addBundle(2, 3, 40);
        return x;
    }

    /** The bicycle with 6 chosen and 5 refused. */
    static TreeConfigurator decided() {
        TreeConfigurator x = bicycle();
        x.choose(6);
        x.refuse(5);
        return x;
    }

    /** All 12 features, 20 rules of which none ties anything, and 6 added layers. */
    static TreeConfigurator full() {
        TreeConfigurator x = flat(11);
        for (int rule = 0; rule < 20; rule++) {
            x.require(1 + rule % 11, 0);
        }
        for (int layer = 0; layer < 6; layer++) {
            x.addSurcharge(layer, 1);
        }
        return x;
    }

    /** The full one, with 2 chosen, and 1 and 3 refused. */
    static TreeConfigurator fullAndDecided() {
        TreeConfigurator x = full();
        x.refuse(1);
        x.choose(2);
        x.refuse(3);
        return x;
    }
}
