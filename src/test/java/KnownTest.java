import java.util.NoSuchElementException;

/** Promises 15 to 18: known, reasonOf, reasonRule and unknown. */
public final class KnownTest {
    private static final Class<NoSuchElementException> NONE = NoSuchElementException.class;

    public static void main(String[] args) throws IllegalAccessException {
        Cases.run(KnownTest.class);
    }

    // known

    static void promise15_eachLetter() {
        TreeConfigurator x = Models.decided();
        Due.answer("the root", x.known(0), 'i');
        Due.answer("chosen", x.known(6), 'i');
        Due.answer("refused", x.known(5), 'n');
        Due.answer("deduced to be in", x.known(4), 'i');
        Due.answer("deduced to be out", x.known(3), 'n');
        x.retract(5);
        Due.answer("unknown, retracted", x.known(5), 'u');
        Due.answer("unknown", x.known(4), 'u');
    }

    static void promise15_oneFeatureAnd12() {
        Due.answer("one feature", new TreeConfigurator().known(0), 'i');
        TreeConfigurator x = Models.fullAndDecided();
        Due.answer("the first of 12", x.known(0), 'i');
        Due.answer("the last of 12, unknown", x.known(11), 'u');
        x.choose(11);
        Due.answer("the last of 12, in", x.known(11), 'i');
        x.retract(11);
        x.refuse(11);
        Due.answer("the last of 12, out", x.known(11), 'n');
    }

    static void promise15_noSuchFeature() {
        Outside.features("known", TreeConfigurator::known);
    }

    // reasonOf

    static void promise16_eachLetter() {
        TreeConfigurator x = Models.decided();
        Due.answer("the root", x.reasonOf(0), 'o');
        Due.answer("mandatory", x.reasonOf(1), 'm');
        Due.answer("a child is in", x.reasonOf(2), 'c');
        Due.answer("a rule", x.reasonOf(3), 'r');
        Due.answer("needed", x.reasonOf(4), 'n');
        Due.answer("refused", x.reasonOf(5), 'd');
        Due.answer("chosen", x.reasonOf(6), 'd');
        TreeConfigurator y = Models.broom(2);
        y.addFeature(2, 0);
        y.setGroup(1, 1, 1);
        y.choose(3);
        Due.answer("the greatest number is in", y.reasonOf(2), 'f');
        Due.answer("the parent is out", y.reasonOf(4), 'p');
        y.retractAll();
        y.refuse(2);
        y.setMandatory(2, true);
        Due.answer("a mandatory child is out", y.reasonOf(1), 'k');
        y.setMandatory(2, false);
        y.refuse(3);
        Due.answer("too few are left", y.reasonOf(1), 'g');
    }

    static void promise16_oneFeatureAnd12() {
        Due.answer("one feature", new TreeConfigurator().reasonOf(0), 'o');
        TreeConfigurator x = Models.flat(11);
        x.exclude(0, 11);
        Due.answer("the first of 12", x.reasonOf(0), 'o');
        Due.answer("the last of 12", x.reasonOf(11), 'r');
    }

    static void promise16_noSuchFeature() {
        Outside.features("reasonOf", TreeConfigurator::reasonOf);
    }

    static void promise16_unknown() {
        Due.refusal("2 of the bicycle", NONE, Models::bicycle, x -> x.reasonOf(2));
        Due.refusal("the first of 11", NONE, Models::full, x -> x.reasonOf(1));
        Due.refusal("the last of 11", NONE, Models::full, x -> x.reasonOf(11));
        Due.refusal("unknown, but in none", NONE, KnownTest::hidden, x -> x.reasonOf(1));
        TreeConfigurator y = Models.decided();
        Due.answer("known before", y.reasonOf(2), 'c');
        y.retract(6);
        Due.answer("known no more", Due.thrownBy(() -> y.reasonOf(2)), "NoSuchElementException");
    }

    // reasonRule

    static void promise17_rule0AndRule19() {
        TreeConfigurator x = Models.flat(2);
        x.require(0, 1);
        for (int rule = 1; rule < 19; rule++) {
            x.require(2, 0);
        }
        x.require(1, 2);
        Due.answer("reasonRule(1)", x.reasonRule(1), 0);
        Due.answer("reasonRule(2)", x.reasonRule(2), 19);
        x.lift(0);
        x.choose(2);
        Due.answer("reasonRule(1), lifted", Due.thrownBy(() -> x.reasonRule(1)),
                "NoSuchElementException");
    }

    static void promise17_noSuchFeature() {
        Outside.features("reasonRule", TreeConfigurator::reasonRule);
    }

    static void promise17_unknown() {
        Due.refusal("2 of the bicycle", NONE, Models::bicycle, x -> x.reasonRule(2));
        Due.refusal("the last of 11", NONE, Models::full, x -> x.reasonRule(11));
        TreeConfigurator y = Models.decided();
        Due.answer("known before", y.reasonRule(3), 1);
        y.retractAll();
        Due.answer("known no more", Due.thrownBy(() -> y.reasonRule(3)), "NoSuchElementException");
    }

    static void promise17_anotherReason() {
        Due.refusal("o", NONE, Models::decided, x -> x.reasonRule(0));
        Due.refusal("o, one feature", NONE, TreeConfigurator::new, x -> x.reasonRule(0));
        Due.refusal("m", NONE, Models::decided, x -> x.reasonRule(1));
        Due.refusal("c", NONE, Models::decided, x -> x.reasonRule(2));
        Due.refusal("n", NONE, Models::decided, x -> x.reasonRule(4));
        Due.refusal("d, refused", NONE, Models::decided, x -> x.reasonRule(5));
        Due.refusal("d, chosen", NONE, Models::decided, x -> x.reasonRule(6));
        TreeConfigurator y = Models.decided();
        y.refuse(3);
        Due.answer("d, also by a rule", Due.thrownBy(() -> y.reasonRule(3)),
                "NoSuchElementException");
    }

    // unknown

    static void promise18_from0To11() {
        Due.answer("one feature", new TreeConfigurator().unknown(), 0);
        TreeConfigurator x = Models.full();
        for (int feature = 1; feature <= 11; feature++) {
            Due.answer("unknown()", x.unknown(), 12 - feature);
            x.refuse(feature);
        }
        Due.answer("none of 12", x.unknown(), 0);
        x.retractAll();
        Due.answer("11 of 12", x.unknown(), 11);
    }

    static void promise18_whatIsDeducedIsNotUnknown() {
        Due.answer("the bicycle", Models.bicycle().unknown(), 5);
        Due.answer("the decided bicycle", Models.decided().unknown(), 0);
        Due.answer("in none, but unknown", hidden().unknown(), 3);
    }

    /** 1 leads to 2 and to 3, which exclude each other. */
    private static TreeConfigurator hidden() {
        TreeConfigurator x = Models.flat(3);
        x.require(1, 2);
        x.require(1, 3);
        x.exclude(2, 3);
        return x;
    }
}
