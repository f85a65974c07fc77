import java.util.NoSuchElementException;
import java.util.function.Supplier;

/** Promises 30 to 32: fewest, toRetract and force. */
public final class WishTest {
    private static final Class<IllegalArgumentException> ARGUMENT = IllegalArgumentException.class;
    private static final Class<NoSuchElementException> NONE = NoSuchElementException.class;

    public static void main(String[] args) throws IllegalAccessException {
        Cases.run(WishTest.class);
    }

    private static void wish(TreeConfigurator x, int feature, boolean isIn, int due) {
        String call = "(" + feature + ", " + isIn + ")";
        Due.answer("fewest" + call, x.fewest(feature, isIn), Integer.bitCount(due));
        Due.answer("toRetract" + call, x.toRetract(feature, isIn), due);
    }

    private static void forced(
            Supplier<TreeConfigurator> maker, int feature, boolean isIn, String due) {
        TreeConfigurator x = maker.get();
        int fewest = x.fewest(feature, isIn);
        String call = "force(" + feature + ", " + isIn + ")";
        Due.answer(call, x.force(feature, isIn), fewest);
        Due.answer("the line after " + call, Probe.line(x), due);
        Due.answer("completions() after " + call + " are there", x.completions() > 0, true);
    }

    // fewest and toRetract

    static void promise30_eachWishOfTheBicycle() {
        TreeConfigurator x = Models.decided();
        int[] in = {0, 0, 0, 1, 0, 1, 0};
        int[] out = {-1, -1, 1, 0, 1, 0, 1};
        for (int feature = 0; feature < 7; feature++) {
            Due.answer("in: " + feature, x.fewest(feature, true), in[feature]);
            if (out[feature] >= 0) {
                Due.answer("out: " + feature, x.fewest(feature, false), out[feature]);
            }
        }
    }

    static void promise31_eachWishOfTheBicycle() {
        TreeConfigurator x = Models.decided();
        int[] in = {0, 0, 0, 0b1000000, 0, 0b0100000, 0};
        int[] out = {-1, -1, 0b1000000, 0, 0b0100000, 0, 0b1000000};
        for (int feature = 0; feature < 7; feature++) {
            Due.answer("in: " + feature, x.toRetract(feature, true), in[feature]);
            if (out[feature] >= 0) {
                Due.answer("out: " + feature, x.toRetract(feature, false), out[feature]);
            }
        }
    }

    static void promise30_noneIfThereIsSuchACompletionNow() {
        TreeConfigurator x = Models.flat(11);
        for (int feature = 1; feature <= 11; feature++) {
            Due.answer("in, undecided", x.fewest(feature, true), 0);
            Due.answer("out, undecided", x.fewest(feature, false), 0);
            x.choose(feature);
            Due.answer("in, chosen", x.fewest(feature, true), 0);
            Due.answer("out, chosen", x.fewest(feature, false), 1);
        }
    }

    static void promise31_noneIfThereIsSuchACompletionNow() {
        TreeConfigurator x = Models.flat(11);
        for (int feature = 1; feature <= 11; feature++) {
            Due.answer("in, undecided", x.toRetract(feature, true), 0);
            Due.answer("out, undecided", x.toRetract(feature, false), 0);
            x.refuse(feature);
            Due.answer("out, refused", x.toRetract(feature, false), 0);
            Due.answer("in, refused", x.toRetract(feature, true), 1 << feature);
        }
    }

    static void promise30_allElevenDecisions() {
        Due.answer("11 in, all refused", chainRefused().fewest(11, true), 11);
        Due.answer("1 in, all refused", chainRefused().fewest(1, true), 1);
        Due.answer("1 out, all chosen", chainChosen().fewest(1, false), 11);
        Due.answer("11 out, all chosen", chainChosen().fewest(11, false), 1);
    }

    static void promise31_allElevenDecisions() {
        Due.answer("11 in, all refused", chainRefused().toRetract(11, true), 4094);
        Due.answer("1 in, all refused", chainRefused().toRetract(1, true), 2);
        Due.answer("1 out, all chosen", chainChosen().toRetract(1, false), 4094);
        Due.answer("11 out, all chosen", chainChosen().toRetract(11, false), 2048);
    }

    private static TreeConfigurator chainRefused() {
        TreeConfigurator x = Models.chain(12);
        for (int feature = 11; feature > 0; feature--) {
            x.refuse(feature);
        }
        return x;
    }

    private static TreeConfigurator chainChosen() {
        TreeConfigurator x = Models.chain(12);
        for (int feature = 1; feature <= 11; feature++) {
            x.choose(feature);
        }
        return x;
    }

    static void promise30_fewestDecisionsOfSeveralWays() {
        Due.answer("one high or two low", oneHighOrTwoLow().fewest(4, true), 1);
    }

    static void promise31_fewestDecisionsBeforeTheLowestNumber() {
        Due.answer("one high or two low", oneHighOrTwoLow().toRetract(4, true), 0b1000);
    }

    /** 4 needs 5, which excludes 1 and 2, or 6, which excludes 3; all three are chosen. */
    private static TreeConfigurator oneHighOrTwoLow() {
        TreeConfigurator x = Models.flat(4);
        x.choose(1);
        x.choose(2);
        x.choose(3);
        x.addFeature(4, 0);
        x.addFeature(4, 0);
        x.setGroup(4, 1, 1);
        x.exclude(5, 1);
        x.exclude(5, 2);
        x.exclude(6, 3);
        return x;
    }

    static void promise31_lowestNumberOfSeveralSets() {
        TreeConfigurator x = Models.flat(4);
        x.choose(1);
        x.choose(2);
        x.setGroup(0, 0, 2);
        wish(x, 3, true, 0b00010);
        x.exclude(4, 1);
        x.exclude(4, 2);
        wish(x, 4, true, 0b00110);
        TreeConfigurator y = Models.flat(5);
        y.refuse(1);
        y.refuse(2);
        y.refuse(3);
        y.any(1, 2, 4);
        y.require(5, 3);
        wish(y, 5, true, 0b01000);
        wish(y, 4, false, 0b00010);
        y.require(1, 3);
        wish(y, 4, false, 0b00100);
        TreeConfigurator z = Models.flat(11);
        for (int feature = 1; feature <= 10; feature++) {
            z.choose(feature);
        }
        z.setGroup(0, 0, 10);
        wish(z, 11, true, 0b10);
        z.setMandatory(1, true);
        wish(z, 11, true, 0b100);
    }

    static void promise30_theFeatureItselfIncluded() {
        Due.answer("refused, and one more", itselfAndAnother().fewest(1, true), 2);
        Due.answer("chosen, and one more", itselfAndAnother().fewest(3, false), 2);
    }

    static void promise31_theFeatureItselfIncluded() {
        Due.answer("refused, and one more", itselfAndAnother().toRetract(1, true), 0b0110);
        Due.answer("chosen, and one more", itselfAndAnother().toRetract(3, false), 0b11000);
    }

    /** 1 requires 2, both refused; 4 requires 3, both chosen. */
    private static TreeConfigurator itselfAndAnother() {
        TreeConfigurator x = Models.flat(4);
        x.require(1, 2);
        x.require(4, 3);
        x.refuse(1);
        x.refuse(2);
        x.choose(3);
        x.choose(4);
        return x;
    }

    static void promise31_theWayHoldsInTheSetOfAllFeaturesAlone() {
        TreeConfigurator x = Models.flat(3);
        x.require(1, 2);
        x.require(1, 3);
        x.refuse(2);
        wish(x, 1, true, 0b0100);
        TreeConfigurator y = Models.flat(11);
        y.setGroup(0, 11, 11);
        wish(y, 11, true, 0);
    }

    static void promise31_theWayHoldsInTheRootAlone() {
        TreeConfigurator x = Models.flat(11);
        x.setGroup(0, 0, 1);
        x.choose(11);
        wish(x, 11, false, 0b100000000000);
        x.exclude(0, 10);
        wish(x, 10, false, 0);
    }

    static void promise30_noSuchFeature() {
        Outside.features("fewest(f, true)", (x, feature) -> x.fewest(feature, true));
        Outside.features("fewest(f, false)", (x, feature) -> x.fewest(feature, false));
    }

    static void promise31_noSuchFeature() {
        Outside.features("toRetract(f, true)", (x, feature) -> x.toRetract(feature, true));
        Outside.features("toRetract(f, false)", (x, feature) -> x.toRetract(feature, false));
    }

    static void promise30_theRoot() {
        Due.answer("in, one feature", new TreeConfigurator().fewest(0, true), 0);
        Due.answer("in, 12 features", Models.fullAndDecided().fewest(0, true), 0);
        Due.refusal("out, one feature", NONE, TreeConfigurator::new, x -> x.fewest(0, false));
        Due.refusal("out, 12 features", NONE, Models::full, x -> x.fewest(0, false));
    }

    static void promise31_theRoot() {
        Due.answer("in, one feature", new TreeConfigurator().toRetract(0, true), 0);
        Due.answer("in, 12 features", Models.fullAndDecided().toRetract(0, true), 0);
        Due.refusal("out, one feature", NONE, TreeConfigurator::new, x -> x.toRetract(0, false));
        Due.refusal("out, 12 features", NONE, Models::full, x -> x.toRetract(0, false));
    }

    static void promise30_noConfigurationAtAll() {
        Due.refusal("without a mandatory one", NONE, Models::decided, x -> x.fewest(1, false));
        Due.refusal("with an excluded one", NONE, WishTest::dead, x -> x.fewest(2, true));
        Due.refusal("with one below it", NONE, WishTest::dead, x -> x.fewest(4, true));
    }

    static void promise31_noConfigurationAtAll() {
        Due.refusal("without a mandatory one", NONE, Models::decided, x -> x.toRetract(1, false));
        Due.refusal("with an excluded one", NONE, WishTest::dead, x -> x.toRetract(2, true));
        Due.refusal("with one below it", NONE, WishTest::dead, x -> x.toRetract(4, true));
    }

    static void promise30_askingChangesNothing() {
        TreeConfigurator x = Models.decided();
        x.fewest(3, true);
        x.fewest(6, false);
        Due.answer("the state", Probe.of(x), Probe.of(Models.decided()));
    }

    static void promise31_askingChangesNothing() {
        TreeConfigurator x = Models.decided();
        x.toRetract(5, true);
        x.toRetract(6, false);
        Due.answer("the state", Probe.of(x), Probe.of(Models.decided()));
    }

    // force

    static void promise32_eachWishOfTheBicycle() {
        forced(Models::decided, 1, true, "0o+ 1d+ 2c+ 3r- 4n+ 5d- 6d+");
        forced(Models::decided, 2, true, "0o+ 1m+ 2d+ 3r- 4n+ 5d- 6d+");
        forced(Models::decided, 2, false, "0o+ 1m+ 2d- 3? 4? 5d- 6p-");
        forced(Models::decided, 3, true, "0o+ 1c+ 2? 3d+ 4? 5d- 6r-");
        forced(Models::decided, 3, false, "0o+ 1m+ 2c+ 3d- 4n+ 5d- 6d+");
        forced(Models::decided, 4, true, "0o+ 1c+ 2c+ 3r- 4d+ 5d- 6d+");
        forced(Models::decided, 4, false, "0o+ 1m+ 2c+ 3r- 4d- 5n+ 6d+");
        forced(Models::decided, 5, true, "0o+ 1c+ 2c+ 3r- 4? 5d+ 6d+");
        forced(Models::decided, 6, false, "0o+ 1m+ 2? 3? 4? 5d- 6d-");
    }

    static void promise32_decidedSoAlready() {
        TreeConfigurator x = Models.decided();
        Due.answer("force(6, true)", x.force(6, true), 0);
        Due.answer("force(5, false)", x.force(5, false), 0);
        Due.answer("the state", Probe.of(x), Probe.of(Models.decided()));
    }

    static void promise32_undecided() {
        TreeConfigurator x = Models.flat(11);
        Due.answer("force(1, true)", x.force(1, true), 0);
        Due.answer("force(11, false)", x.force(11, false), 0);
        Due.answer("stateOf(1)", x.stateOf(1), 'c');
        Due.answer("stateOf(11)", x.stateOf(11), 'r');
        Due.answer("retractAll()", x.retractAll(), 2);
    }

    static void promise32_decidedTheOtherWay() {
        TreeConfigurator x = Models.flat(11);
        x.choose(11);
        Due.answer("force(11, false)", x.force(11, false), 1);
        Due.answer("stateOf(11)", x.stateOf(11), 'r');
        Due.answer("force(11, true)", x.force(11, true), 1);
        Due.answer("stateOf(11) then", x.stateOf(11), 'c');
        Due.answer("retractAll()", x.retractAll(), 1);
    }

    static void promise32_allElevenDecisions() {
        TreeConfigurator x = chainRefused();
        Due.answer("force(11, true)", x.force(11, true), 11);
        Due.answer("the line", Probe.line(x),
                "0o+ 1c+ 2c+ 3c+ 4c+ 5c+ 6c+ 7c+ 8c+ 9c+ 10c+ 11d+");
        TreeConfigurator y = chainChosen();
        Due.answer("force(1, false)", y.force(1, false), 11);
        Due.answer("the line then", Probe.line(y),
                "0o+ 1d- 2p- 3p- 4p- 5p- 6p- 7p- 8p- 9p- 10p- 11p-");
    }

    static void promise32_retractsTheLowestOfSeveralSets() {
        TreeConfigurator x = Models.flat(4);
        x.choose(1);
        x.choose(2);
        x.setGroup(0, 0, 2);
        Due.answer("force(3, true)", x.force(3, true), 1);
        Due.answer("the line", Probe.line(x), "0o+ 1f- 2d+ 3d+ 4f-");
    }

    static void promise32_noSuchFeature() {
        Outside.features("force(f, true)", (x, feature) -> x.force(feature, true));
        Outside.features("force(f, false)", (x, feature) -> x.force(feature, false));
    }

    static void promise32_theRoot() {
        Due.refusal("chosen", ARGUMENT, Models::decided, x -> x.force(0, true));
        Due.refusal("chosen, one feature", ARGUMENT, TreeConfigurator::new,
                x -> x.force(0, true));
        Due.refusal("chosen, 12 features", ARGUMENT, Models::full, x -> x.force(0, true));
    }

    static void promise32_orderOfExceptions() {
        Due.refusal("the root, no configuration", ARGUMENT, Models::decided,
                x -> x.force(0, false));
        Due.refusal("the root, no configuration, 12", ARGUMENT, Models::full,
                x -> x.force(0, false));
    }

    static void promise32_noConfigurationAtAll() {
        Due.refusal("without a mandatory one", NONE, Models::decided, x -> x.force(1, false));
        Due.refusal("with an excluded one", NONE, WishTest::dead, x -> x.force(2, true));
        Due.refusal("with one below it", NONE, WishTest::dead, x -> x.force(4, true));
    }

    /** 2 and so its child 4 are in no configuration, 1 is chosen and 3 refused. */
    private static TreeConfigurator dead() {
        TreeConfigurator x = Models.flat(3);
        x.addFeature(2, 0);
        x.exclude(0, 2);
        x.choose(1);
        x.refuse(3);
        return x;
    }
}
