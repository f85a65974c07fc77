/**
 * The document's terms: features, sets, rules, configurations, decisions, exceptions, and the 512
 * calls for which an object is used. The terms of deduction are in DeductionTest, those of the
 * order of completions in CheapestTest, and those of the layers in LayerTest.
 */
public final class TermsTest {
    public static void main(String[] args) throws IllegalAccessException {
        Cases.run(TermsTest.class);
    }

    // The use of an object

    static void terms_the512thCallIsAnswered() {
        TreeConfigurator x = Models.full();
        int calls = 11 + 20 + 6;
        for (; calls < 508; calls++) {
            int call = calls;
            Due.answer("call " + call, ask(x, call % 8), asked(call % 8));
        }
        Due.answer("call 509", x.choose(11), 10);
        Due.answer("call 510", x.completions(), 1024L);
        Due.answer("call 511", x.complete(), 110 + 2 + 1);
        Due.answer("call 512", x.cheapest(), 2049);
    }

    private static Object ask(TreeConfigurator x, int which) {
        return switch (which) {
            case 0 -> x.completions();
            case 1 -> x.cheapest();
            case 2 -> x.unknown();
            case 3 -> x.lineLength();
            case 4 -> Due.thrownBy(() -> x.addFeature(0, 1));
            case 5 -> Due.thrownBy(() -> x.require(1, 2));
            case 6 -> Due.thrownBy(() -> x.addPercent(1));
            default -> x.price(4095);
        };
    }

    private static Object asked(int which) {
        return switch (which) {
            case 0 -> 2048L;
            case 1 -> 1;
            case 2 -> 11;
            case 3 -> 38;
            case 4, 5, 6 -> "IllegalStateException";
            default -> 660 + 12 + 11 + 10 + 9 + 8 + 7;
        };
    }

    static void terms_512CallsThatChange() {
        TreeConfigurator x = Models.flat(2);
        for (int call = 2; call < 510; call += 4) {
            Due.answer("choose(1)", x.choose(1), 1);
            Due.answer("force(1, false)", x.force(1, false), 1);
            Due.answer("refuse(2)", x.refuse(2), 0);
            Due.answer("retractAll()", x.retractAll(), 2);
        }
        Due.answer("call 511", x.unknown(), 2);
        Due.answer("call 512", x.completions(), 4L);
    }

    static void terms_512AddedAndRemovedLayers() {
        TreeConfigurator x = new TreeConfigurator();
        for (int call = 0; call < 510; call += 2) {
            Due.answer("addSurcharge(0, 999)", x.addSurcharge(0, 999), 2);
            Due.answer("removeLayer()", x.removeLayer(), 1);
        }
        Due.answer("call 511", x.price(1), 0);
    }

    // Features

    static void terms_features12HaveTheNumbers0To11() {
        TreeConfigurator x = Models.full();
        for (int feature = 0; feature < 12; feature++) {
            Due.answer("known(" + feature + ")", x.known(feature), feature == 0 ? 'i' : 'u');
        }
        Due.answer("known(12)", Due.thrownBy(() -> x.known(12)), "IndexOutOfBoundsException");
    }

    static void terms_featuresRootHasThePrice0() {
        Due.answer("the root alone", new TreeConfigurator().price(1), 0);
        Due.answer("the root of 12", Models.flat(11).price(1), 0);
    }

    static void terms_featuresParentHasALowerNumber() {
        TreeConfigurator x = Models.flat(4);
        Due.answer("itself", Due.thrownBy(() -> x.addFeature(5, 1)), "IndexOutOfBoundsException");
        Due.answer("the one before", x.addFeature(4, 1), 5);
        Due.answer("the root", x.addFeature(0, 1), 6);
    }

    static void terms_featuresAtFirst0To12Children() {
        TreeConfigurator x = Models.flat(11);
        Due.answer("the root with 11 children", x.isConfiguration(4095), true);
        Due.answer("the root without children", x.isConfiguration(1), true);
        TreeConfigurator y = Models.broom(10);
        Due.answer("1 with 10 children", y.isConfiguration(4095), true);
        Due.answer("1 with 1 child", y.isConfiguration(0b100000000011), true);
        Due.answer("1 without children", y.isConfiguration(3), true);
        Due.answer("completions()", y.completions(), 1025L);
    }

    // Sets

    static void terms_setsAreSumsOfPowersOf2() {
        TreeConfigurator x = Models.flat(11);
        for (int feature = 0; feature < 12; feature++) {
            Due.answer("the price of " + feature, x.price(1 << feature), 10 * feature);
        }
        Due.answer("the price of none", x.price(0), 0);
        Due.answer("the price of all", x.price(4095), 660);
    }

    // Rules

    static void terms_rules20HaveTheNumbers0To19() {
        TreeConfigurator x = Models.flat(3);
        for (int rule = 0; rule < 18; rule += 3) {
            Due.answer("require", x.require(1, 2), rule);
            Due.answer("exclude", x.exclude(0, 3), rule + 1);
            Due.answer("any", x.any(0, 1, 2), rule + 2);
        }
        Due.answer("the 19th", x.require(1, 0), 18);
        Due.answer("the 20th", x.require(1, 0), 19);
        Due.answer("a 21st", Due.thrownBy(() -> x.require(1, 0)), "IllegalStateException");
    }

    static void terms_rulesRequiresInEachSet() {
        TreeConfigurator x = Models.flat(2);
        x.require(1, 2);
        holds(x, "neither, the first, the second, both", 3, "1011");
        TreeConfigurator y = Models.flat(2);
        y.require(2, 1);
        holds(y, "neither, the second, the first, both", 3, "1101");
    }

    static void terms_rulesExcludesInEachSet() {
        TreeConfigurator x = Models.flat(2);
        x.exclude(1, 2);
        holds(x, "neither, the first, the second, both", 3, "1110");
    }

    static void terms_rulesAnyInEachSet() {
        TreeConfigurator x = Models.flat(3);
        x.any(1, 2, 3);
        holds(x, "none, 1, 2, 12, 3, 13, 23, 123", 4, "01111111");
    }

    static void terms_rulesWithTheRoot() {
        TreeConfigurator x = Models.flat(2);
        x.require(1, 0);
        x.any(2, 1, 0);
        holds(x, "rules that hold with the root", 3, "1111");
        x.require(0, 1);
        holds(x, "the root requires 1", 3, "0101");
        x.exclude(2, 0);
        holds(x, "2 excludes the root", 3, "0100");
    }

    static void terms_rulesInForceUntilLifted() {
        TreeConfigurator x = Models.flat(3);
        x.require(0, 1);
        x.exclude(2, 3);
        x.exclude(1, 3);
        holds(x, "all three", 4, "01010000");
        x.lift(2);
        holds(x, "without the last", 4, "01010100");
        x.lift(0);
        holds(x, "without the first and the last", 4, "11111100");
        x.lift(1);
        holds(x, "without any", 4, "11111111");
    }

    /** Tells the sets that have the root, in the order of their numbers. */
    private static void holds(TreeConfigurator x, String which, int features, String due) {
        StringBuilder holds = new StringBuilder();
        for (int set = 1; set < 1 << features; set += 2) {
            holds.append(x.isConfiguration(set) ? '1' : '0');
        }
        Due.answer(which, holds.toString(), due);
    }

    // Configurations

    static void terms_configurationHasTheRoot() {
        Due.answer("no feature", new TreeConfigurator().isConfiguration(0), false);
        Due.answer("the root", new TreeConfigurator().isConfiguration(1), true);
        TreeConfigurator x = Models.chain(12);
        Due.answer("all but the root", x.isConfiguration(4094), false);
        Due.answer("all", x.isConfiguration(4095), true);
    }

    static void terms_configurationHasTheParents() {
        TreeConfigurator x = Models.chain(12);
        for (int missing = 1; missing < 11; missing++) {
            Due.answer("all but " + missing, x.isConfiguration(4095 & ~(1 << missing)), false);
        }
        Due.answer("all but the last", x.isConfiguration(2047), true);
    }

    static void terms_configurationHasTheMandatoryChildrenOfItsFeatures() {
        TreeConfigurator x = Models.chain(4);
        x.setMandatory(2, true);
        Due.answer("the parent is absent", x.isConfiguration(0b0001), true);
        Due.answer("the parent alone", x.isConfiguration(0b0011), false);
        Due.answer("the parent and the child", x.isConfiguration(0b0111), true);
        x.setMandatory(3, true);
        Due.answer("without the grandchild", x.isConfiguration(0b0111), false);
        Due.answer("all", x.isConfiguration(0b1111), true);
    }

    static void terms_configurationNotLessThanTheLeastNumber() {
        TreeConfigurator x = Models.broom(3);
        x.setGroup(1, 2, 12);
        Due.answer("one child", x.isConfiguration(0b00111), false);
        Due.answer("two children", x.isConfiguration(0b01111), true);
        Due.answer("three children", x.isConfiguration(0b11111), true);
        Due.answer("the parent is absent", x.isConfiguration(0b00001), true);
    }

    static void terms_configurationNotGreaterThanTheGreatestNumber() {
        TreeConfigurator x = Models.broom(3);
        x.setGroup(1, 0, 1);
        Due.answer("no child", x.isConfiguration(0b00011), true);
        Due.answer("one child", x.isConfiguration(0b10011), true);
        Due.answer("two children", x.isConfiguration(0b11011), false);
        Due.answer("three children", x.isConfiguration(0b11111), false);
    }

    static void terms_configurationCountsChildrenNotGrandchildren() {
        TreeConfigurator x = Models.broom(3);
        x.setGroup(0, 1, 1);
        Due.answer("one child, three grandchildren", x.isConfiguration(0b11111), true);
        Due.answer("one child", x.isConfiguration(0b00011), true);
        Due.answer("no child", x.isConfiguration(0b00001), false);
    }

    static void terms_configurationKeepsEachRule() {
        TreeConfigurator x = Models.flat(11);
        for (int rule = 0; rule < 19; rule++) {
            x.require(1, 0);
        }
        Due.answer("before the 20th rule", x.isConfiguration(0b110000000001), true);
        x.exclude(11, 10);
        Due.answer("the 20th rule is broken", x.isConfiguration(0b110000000001), false);
        Due.answer("completions()", x.completions(), 1536L);
    }

    // Decisions

    static void terms_decisionsRootIsNeverDecided() {
        TreeConfigurator x = Models.flat(1);
        Due.answer("choose(0)", Due.thrownBy(() -> x.choose(0)), "IllegalArgumentException");
        Due.answer("refuse(0)", Due.thrownBy(() -> x.refuse(0)), "IllegalArgumentException");
        Due.answer("force(0)", Due.thrownBy(() -> x.force(0, true)), "IllegalArgumentException");
        x.complete();
        Due.answer("retract(0)", Due.thrownBy(() -> x.retract(0)), "IllegalStateException");
        Due.answer("retractAll()", x.retractAll(), 1);
    }

    static void terms_decisionsUntilRetracted() {
        TreeConfigurator x = Models.flat(2);
        x.choose(1);
        x.refuse(2);
        x.setMandatory(1, true);
        x.require(0, 1);
        x.addFeature(0, 1);
        x.addPercent(5);
        Due.answer("the line", Probe.line(x), "0o+ 1d+ 2d- 3?");
        x.retract(1);
        x.retract(2);
        Due.answer("the line then", Probe.line(x), "0o+ 1m+ 2? 3?");
    }

    static void terms_decisionsCompletionHasTheChosenAndNoRefusedOnes() {
        TreeConfigurator x = Models.flat(3);
        x.choose(1);
        x.refuse(2);
        Due.answer("completions()", x.completions(), 2L);
        Due.answer("cheapest()", x.cheapest(), 0b0011);
        Due.answer("a configuration without 1", x.isConfiguration(0b0001), true);
        Due.answer("a configuration with 2", x.isConfiguration(0b0111), true);
    }

    static void terms_decisionsAlwaysLeaveACompletion() {
        TreeConfigurator x = Models.flat(2);
        x.any(0, 1, 2);
        x.exclude(1, 2);
        x.setGroup(0, 1, 1);
        String none = "UnsupportedOperationException";
        x.refuse(1);
        Due.answer("refuse(2)", Due.thrownBy(() -> x.refuse(2)), none);
        Due.answer("exclude(0, 2)", Due.thrownBy(() -> x.exclude(0, 2)), none);
        Due.answer("require(2, 1)", Due.thrownBy(() -> x.require(2, 1)), none);
        Due.answer("setMandatory(1, true)", Due.thrownBy(() -> x.setMandatory(1, true)), none);
        Due.answer("setGroup(0, 0, 0)", x.setGroup(0, 0, 0), 2);
        Due.answer("choose(2)", Due.thrownBy(() -> x.choose(2)), none);
        Due.answer("any(1, 2, 0)", x.any(1, 2, 0), 2);
        Due.answer("completions()", x.completions(), 1L);
    }

    // Exceptions

    static void terms_exceptionsChangeNothingOneAfterTheOther() {
        TreeConfigurator x = Models.fullAndDecided();
        Runnable[] refused = {
            () -> x.addFeature(0, 1), () -> x.addFeature(12, 1), () -> x.addFeature(0, -1),
            () -> x.setMandatory(0, true), () -> x.setMandatory(1, true),
            () -> x.setGroup(0, 10, 10), () -> x.setGroup(0, 2, 1), () -> x.setGroup(12, 0, 1),
            () -> x.require(0, 1), () -> x.exclude(0, 2), () -> x.any(1, 1, 3),
            () -> x.any(1, 2, 12), () -> x.lift(20), () -> x.lift(-1),
            () -> x.choose(1), () -> x.choose(0), () -> x.choose(12), () -> x.refuse(2),
            () -> x.refuse(0), () -> x.refuse(-1), () -> x.retract(4), () -> x.retract(0),
            () -> x.addBundle(1, 2, 3), () -> x.addBundle(1, 12, 3),
            () -> x.addPercent(1), () -> x.addPercent(101), () -> x.addSurcharge(1, 1),
            () -> x.addSurcharge(13, 1), () -> x.force(0, true), () -> x.force(12, false),
            () -> x.fewest(0, false), () -> x.toRetract(0, false), () -> x.lineAt(-1),
            () -> x.isConfiguration(-1), () -> x.price(4096), () -> x.known(12),
            () -> x.stateOf(12), () -> x.stateByAll(-1), () -> x.reasonOf(4), () -> x.reasonRule(1),
        };
        for (int call = 0; call < refused.length; call++) {
            Due.answer("call " + call, Due.thrownBy(refused[call]).equals("nothing"), false);
        }
        Due.answer("the state", Probe.of(x), Probe.of(Models.fullAndDecided()));
    }
}
