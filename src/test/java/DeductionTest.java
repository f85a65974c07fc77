/** The terms of deduction: which letter applies when, and which of several comes first. */
public final class DeductionTest {
    public static void main(String[] args) throws IllegalAccessException {
        Cases.run(DeductionTest.class);
    }

    private static void line(String when, TreeConfigurator x, String due) {
        Due.answer(when, Probe.line(x), due);
    }

    // What is known at first

    static void terms_deductionRootChosenAndRefused() {
        line("one feature", new TreeConfigurator(), "0o+");
        TreeConfigurator x = Models.flat(3);
        line("nothing decided", x, "0o+ 1? 2? 3?");
        x.choose(1);
        x.refuse(3);
        line("1 chosen, 3 refused", x, "0o+ 1d+ 2? 3d-");
    }

    static void terms_deductionDecidedIsNotDeduced() {
        TreeConfigurator x = Models.chain(3);
        x.setMandatory(1, true);
        x.choose(2);
        x.choose(1);
        line("1 is chosen, mandatory, and has a child", x, "0o+ 1d+ 2d+");
        TreeConfigurator y = Models.chain(3);
        y.refuse(1);
        y.refuse(2);
        y.exclude(0, 2);
        line("2 is refused, excluded, and has no parent", y, "0o+ 1d- 2d-");
    }

    // Each letter, when it just applies and when it just does not

    static void terms_letterCAChildIsIn() {
        TreeConfigurator x = Models.chain(4);
        line("no child in", x, "0o+ 1? 2? 3?");
        x.choose(3);
        line("the last child in", x, "0o+ 1c+ 2c+ 3d+");
        TreeConfigurator y = Models.broom(10);
        y.choose(11);
        line("one of ten in", y, "0o+ 1c+ 2? 3? 4? 5? 6? 7? 8? 9? 10? 11d+");
        y.retractAll();
        y.refuse(11);
        line("one of ten out", y, "0o+ 1? 2? 3? 4? 5? 6? 7? 8? 9? 10? 11d-");
    }

    static void terms_letterPTheParentIsOut() {
        TreeConfigurator x = Models.chain(4);
        x.refuse(1);
        line("the first out", x, "0o+ 1d- 2p- 3p-");
        x.retractAll();
        x.refuse(2);
        line("the second out", x, "0o+ 1? 2d- 3p-");
        x.retractAll();
        x.choose(1);
        line("the first in", x, "0o+ 1d+ 2? 3?");
    }

    static void terms_letterMMandatoryAndTheParentIsIn() {
        TreeConfigurator x = Models.chain(4);
        x.setMandatory(2, true);
        line("the parent is unknown", x, "0o+ 1? 2? 3?");
        x.choose(1);
        line("the parent is in", x, "0o+ 1d+ 2m+ 3?");
        x.retractAll();
        x.setMandatory(1, true);
        x.setMandatory(3, true);
        line("all the way", x, "0o+ 1m+ 2m+ 3m+");
        x.setMandatory(2, false);
        line("no more mandatory", x, "0o+ 1m+ 2? 3?");
    }

    static void terms_letterKAMandatoryChildIsOut() {
        TreeConfigurator x = Models.chain(4);
        x.refuse(3);
        line("a child is out", x, "0o+ 1? 2? 3d-");
        x.setMandatory(3, true);
        line("a mandatory child is out", x, "0o+ 1? 2k- 3d-");
        x.setMandatory(2, true);
        line("one after the other", x, "0o+ 1k- 2k- 3d-");
        x.retract(3);
        line("a mandatory child is unknown", x, "0o+ 1? 2? 3?");
    }

    static void terms_letterFTheGreatestNumberIsIn() {
        TreeConfigurator x = Models.flat(4);
        x.setGroup(0, 0, 2);
        x.choose(4);
        line("one of two in", x, "0o+ 1? 2? 3? 4d+");
        x.choose(2);
        line("two of two in", x, "0o+ 1f- 2d+ 3f- 4d+");
        x.setGroup(0, 0, 3);
        line("two of three in", x, "0o+ 1? 2d+ 3? 4d+");
    }

    static void terms_letterFNoneMayBeIn() {
        TreeConfigurator x = Models.flat(11);
        x.setGroup(0, 0, 0);
        line("none of 11", x, "0o+ 1f- 2f- 3f- 4f- 5f- 6f- 7f- 8f- 9f- 10f- 11f-");
        x.setGroup(0, 0, 1);
        line("one of 11", x, "0o+ 1? 2? 3? 4? 5? 6? 7? 8? 9? 10? 11?");
    }

    static void terms_letterFTheParentIsIn() {
        TreeConfigurator x = Models.chain(3);
        x.setGroup(1, 0, 0);
        line("the parent is unknown", x, "0o+ 1? 2?");
        x.choose(1);
        line("the parent is in", x, "0o+ 1d+ 2f-");
    }

    static void terms_letterNOnlyTheLeastNumberIsLeft() {
        TreeConfigurator x = Models.flat(4);
        x.setGroup(0, 2, 12);
        x.refuse(1);
        line("three left where two are needed", x, "0o+ 1d- 2? 3? 4?");
        x.refuse(3);
        line("two left where two are needed", x, "0o+ 1d- 2n+ 3d- 4n+");
        x.retractAll();
        x.choose(2);
        x.refuse(3);
        line("one is in already, one too many left", x, "0o+ 1? 2d+ 3d- 4?");
        x.refuse(4);
        line("one is in already, one left", x, "0o+ 1n+ 2d+ 3d- 4d-");
    }

    static void terms_letterNAllAreNeeded() {
        TreeConfigurator x = Models.flat(11);
        x.setGroup(0, 11, 11);
        line("all of 11", x, "0o+ 1n+ 2n+ 3n+ 4n+ 5n+ 6n+ 7n+ 8n+ 9n+ 10n+ 11n+");
        x.setGroup(0, 10, 11);
        line("10 of 11", x, "0o+ 1? 2? 3? 4? 5? 6? 7? 8? 9? 10? 11?");
    }

    static void terms_letterNTheParentIsIn() {
        TreeConfigurator x = Models.broom(2);
        x.setGroup(1, 2, 2);
        line("the parent is unknown", x, "0o+ 1? 2? 3?");
        x.choose(1);
        line("the parent is in", x, "0o+ 1d+ 2n+ 3n+");
    }

    static void terms_letterGFewerThanTheLeastNumberAreLeft() {
        TreeConfigurator x = Models.broom(3);
        x.setGroup(1, 2, 3);
        x.refuse(2);
        line("two left where two are needed", x, "0o+ 1? 2d- 3? 4?");
        x.refuse(4);
        line("one left where two are needed", x, "0o+ 1g- 2d- 3p- 4d-");
        TreeConfigurator leaf = Models.flat(2);
        leaf.setGroup(2, 1, 1);
        line("a leaf that wants a child", leaf, "0o+ 1? 2g-");
        leaf.setGroup(2, 12, 12);
        line("a leaf that wants 12", leaf, "0o+ 1? 2g-");
        leaf.setGroup(2, 0, 0);
        line("a leaf that wants none", leaf, "0o+ 1? 2?");
    }

    /** A child that is known to be in tells 'c', which comes first: 'g' can't tell of too many. */
    static void terms_letterGMoreThanTheGreatestNumberIsNeverTold() {
        TreeConfigurator x = Models.broom(3);
        x.setGroup(1, 0, 1);
        x.choose(2);
        line("as many as the greatest number", x, "0o+ 1c+ 2d+ 3f- 4f-");
        Due.answer("choose(3)", Due.thrownBy(() -> x.choose(3)), "UnsupportedOperationException");
    }

    static void terms_letterRRequires() {
        TreeConfigurator x = Models.flat(3);
        x.require(1, 2);
        line("nothing known", x, "0o+ 1? 2? 3?");
        x.choose(1);
        line("the first in", x, "0o+ 1d+ 2r+ 3?");
        x.retractAll();
        x.refuse(2);
        line("the second out", x, "0o+ 1r- 2d- 3?");
        x.retractAll();
        x.choose(2);
        line("the second in", x, "0o+ 1? 2d+ 3?");
        x.retractAll();
        x.refuse(1);
        line("the first out", x, "0o+ 1d- 2? 3?");
    }

    static void terms_letterRExcludes() {
        TreeConfigurator x = Models.flat(3);
        x.exclude(3, 1);
        line("nothing known", x, "0o+ 1? 2? 3?");
        x.choose(3);
        line("the first in", x, "0o+ 1r- 2? 3d+");
        x.retractAll();
        x.choose(1);
        line("the second in", x, "0o+ 1d+ 2? 3r-");
        x.retractAll();
        x.refuse(1);
        line("the second out", x, "0o+ 1d- 2? 3?");
        x.retractAll();
        x.refuse(3);
        line("the first out", x, "0o+ 1? 2? 3d-");
    }

    static void terms_letterRAny() {
        TreeConfigurator x = Models.flat(3);
        x.any(1, 2, 3);
        x.refuse(1);
        line("one out", x, "0o+ 1d- 2? 3?");
        x.refuse(3);
        line("the second left", x, "0o+ 1d- 2r+ 3d-");
        x.retract(1);
        x.refuse(2);
        line("the first left", x, "0o+ 1r+ 2d- 3d-");
        x.retract(3);
        x.refuse(1);
        line("the third left", x, "0o+ 1d- 2d- 3r+");
        x.retract(1);
        x.choose(1);
        line("one in, one out", x, "0o+ 1d+ 2d- 3?");
    }

    static void terms_letterRWithTheRoot() {
        TreeConfigurator x = Models.flat(3);
        x.require(0, 1);
        x.exclude(2, 0);
        x.any(2, 0, 3);
        x.require(3, 0);
        line("rules with the root", x, "0o+ 1r+ 2r- 3?");
        Due.answer("reasonRule(1)", x.reasonRule(1), 0);
        Due.answer("reasonRule(2)", x.reasonRule(2), 1);
    }

    static void terms_letterRForARuleInForce() {
        TreeConfigurator x = Models.flat(3);
        x.require(0, 1);
        x.exclude(0, 2);
        x.any(2, 3, 1);
        x.lift(0);
        x.refuse(1);
        line("the first lifted", x, "0o+ 1d- 2r- 3r+");
        x.lift(1);
        line("the first two lifted", x, "0o+ 1d- 2? 3?");
        x.refuse(2);
        line("the third in force", x, "0o+ 1d- 2d- 3r+");
        x.lift(2);
        line("all lifted", x, "0o+ 1d- 2d- 3?");
    }

    static void terms_letterROfSeveralTheLowestRule() {
        TreeConfigurator x = Models.flat(4);
        x.any(1, 2, 3);
        x.require(1, 4);
        x.require(2, 4);
        x.require(2, 4);
        x.exclude(3, 4);
        x.choose(2);
        Due.answer("reasonRule(4)", x.reasonRule(4), 2);
        x.lift(2);
        Due.answer("reasonRule(4), 2 lifted", x.reasonRule(4), 3);
        Due.answer("reasonRule(3)", x.reasonRule(3), 4);
        x.choose(1);
        Due.answer("reasonRule(4), 1 chosen", x.reasonRule(4), 1);
        x.retractAll();
        x.refuse(4);
        Due.answer("reasonRule(1)", x.reasonRule(1), 1);
        Due.answer("reasonRule(2)", x.reasonRule(2), 3);
        Due.answer("reasonRule(3), by any", x.reasonRule(3), 0);
    }

    // Where two letters apply to one feature, the one that is listed first; the other pairs of
    // letters contradict each other, and never apply at once

    static void terms_letterCBeforeM() {
        TreeConfigurator x = Models.chain(3);
        x.setMandatory(1, true);
        x.choose(2);
        line("c and m", x, "0o+ 1c+ 2d+");
    }

    static void terms_letterCBeforeN() {
        TreeConfigurator x = Models.chain(3);
        x.setGroup(0, 1, 1);
        x.choose(2);
        line("c and n", x, "0o+ 1c+ 2d+");
    }

    static void terms_letterCBeforeR() {
        TreeConfigurator x = Models.chain(3);
        x.require(0, 1);
        x.choose(2);
        line("c and r", x, "0o+ 1c+ 2d+");
    }

    static void terms_letterPBeforeK() {
        TreeConfigurator x = Models.chain(4);
        x.setMandatory(3, true);
        x.refuse(3);
        x.refuse(1);
        line("p and k", x, "0o+ 1d- 2p- 3d-");
    }

    static void terms_letterPBeforeG() {
        TreeConfigurator x = Models.chain(3);
        x.setGroup(2, 1, 1);
        x.refuse(1);
        line("p and g", x, "0o+ 1d- 2p-");
    }

    static void terms_letterPBeforeR() {
        TreeConfigurator x = Models.chain(3);
        x.exclude(0, 2);
        x.refuse(1);
        line("p and r", x, "0o+ 1d- 2p-");
    }

    static void terms_letterMBeforeN() {
        TreeConfigurator x = Models.flat(2);
        x.setGroup(0, 2, 2);
        x.setMandatory(1, true);
        line("m and n", x, "0o+ 1m+ 2n+");
    }

    static void terms_letterMBeforeR() {
        TreeConfigurator x = Models.flat(1);
        x.require(0, 1);
        x.setMandatory(1, true);
        line("m and r", x, "0o+ 1m+");
    }

    static void terms_letterKBeforeF() {
        TreeConfigurator x = kFG();
        x.setGroup(1, 0, 1);
        x.setGroup(0, 0, 1);
        line("k and f", x, "0o+ 1k- 2d+ 3d-");
    }

    static void terms_letterKBeforeG() {
        TreeConfigurator x = kFG();
        line("k and g", x, "0o+ 1k- 2d+ 3d-");
    }

    static void terms_letterKBeforeR() {
        TreeConfigurator x = kFG();
        x.setGroup(1, 0, 1);
        x.exclude(0, 1);
        line("k and r", x, "0o+ 1k- 2d+ 3d-");
    }

    static void terms_letterFBeforeG() {
        TreeConfigurator x = Models.flat(2);
        x.setGroup(0, 0, 1);
        x.setGroup(1, 1, 1);
        x.choose(2);
        line("f and g", x, "0o+ 1f- 2d+");
    }

    static void terms_letterFBeforeR() {
        TreeConfigurator x = Models.flat(2);
        x.setGroup(0, 0, 1);
        x.exclude(1, 2);
        x.choose(2);
        line("f and r", x, "0o+ 1f- 2d+");
    }

    static void terms_letterNBeforeR() {
        TreeConfigurator x = Models.flat(2);
        x.setGroup(0, 1, 12);
        x.require(0, 2);
        x.refuse(1);
        line("n and r", x, "0o+ 1d- 2n+");
    }

    static void terms_letterGBeforeR() {
        TreeConfigurator x = Models.flat(2);
        x.setGroup(2, 1, 1);
        x.exclude(0, 2);
        line("g and r", x, "0o+ 1? 2g-");
    }

    /** 1 has the mandatory child 3, which is refused, and wants one; 2 is chosen. */
    private static TreeConfigurator kFG() {
        TreeConfigurator x = Models.flat(2);
        x.addFeature(1, 0);
        x.setMandatory(3, true);
        x.setGroup(1, 1, 1);
        x.choose(2);
        x.refuse(3);
        return x;
    }

    // The lowest-numbered feature first, after each step anew

    static void terms_lowestFeatureBeforeTheFirstLetter() {
        TreeConfigurator x = Models.flat(2);
        x.setGroup(0, 0, 1);
        x.setMandatory(2, true);
        x.exclude(0, 1);
        line("r of 1 before m of 2", x, "0o+ 1r- 2m+");
        TreeConfigurator y = Models.flat(2);
        y.setGroup(0, 0, 1);
        y.setMandatory(1, true);
        y.exclude(0, 2);
        line("m of 1, then f of 2", y, "0o+ 1m+ 2f-");
    }

    static void terms_lowestFeatureAnewAfterEachStep() {
        TreeConfigurator x = Models.flat(4);
        x.require(4, 2);
        x.require(2, 1);
        x.require(1, 3);
        x.require(4, 3);
        x.choose(4);
        line("a chain of rules", x, "0o+ 1r+ 2r+ 3r+ 4d+");
        Due.answer("1 comes before 3", x.reasonRule(3), 2);
        x.lift(2);
        Due.answer("3 by the rule that is left", x.reasonRule(3), 3);
        TreeConfigurator y = Models.flat(4);
        y.setGroup(0, 0, 2);
        y.require(4, 2);
        y.exclude(4, 3);
        y.choose(4);
        line("2 in first, then 1 and 3 out", y, "0o+ 1f- 2r+ 3f- 4d+");
    }

    static void terms_lowestFeatureAsLongAsOneApplies() {
        TreeConfigurator x = Models.flat(11);
        for (int feature = 11; feature > 1; feature--) {
            x.require(feature, feature - 1);
        }
        x.choose(11);
        line("ten steps downward", x, "0o+ 1r+ 2r+ 3r+ 4r+ 5r+ 6r+ 7r+ 8r+ 9r+ 10r+ 11d+");
        x.retract(11);
        x.refuse(1);
        line("ten steps upward", x, "0o+ 1d- 2r- 3r- 4r- 5r- 6r- 7r- 8r- 9r- 10r- 11r-");
        x.retract(1);
        x.choose(6);
        line("five steps", x, "0o+ 1r+ 2r+ 3r+ 4r+ 5r+ 6d+ 7? 8? 9? 10? 11?");
        TreeConfigurator y = Models.chain(12);
        y.setMandatory(1, true);
        for (int feature = 2; feature < 12; feature++) {
            y.setMandatory(feature, true);
        }
        line("eleven steps", y, "0o+ 1m+ 2m+ 3m+ 4m+ 5m+ 6m+ 7m+ 8m+ 9m+ 10m+ 11m+");
    }
}
