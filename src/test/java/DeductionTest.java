import java.util.NoSuchElementException;

/** Promises 15 to 18: known, reasonOf, reasonRule and unknown; and the terms of deduction. */
public final class DeductionTest {
    private static final Class<IndexOutOfBoundsException> INDEX = IndexOutOfBoundsException.class;
    private static final Class<NoSuchElementException> NONE = NoSuchElementException.class;

    public static void main(String[] args) {
        eachLetter();
        groupLetters();
        ruleLetters();
        lowestRule();
        letterOrder();
        lowestFeatureFirst();
        answers();
        refusals();
        Due.end();
    }

    private static void eachLetter() {
        TreeConfigurator x = Models.chain(4);
        Due.answer("nothing decided", Probe.line(x), "0o+ 1? 2? 3?");
        x.choose(3);
        Due.answer("c", Probe.line(x), "0o+ 1c+ 2c+ 3d+");
        x.retractAll();
        x.refuse(1);
        Due.answer("p", Probe.line(x), "0o+ 1d- 2p- 3p-");
        x.retractAll();
        x.setMandatory(2, true);
        Due.answer("m waits for the parent", Probe.line(x), "0o+ 1? 2? 3?");
        x.choose(1);
        Due.answer("m", Probe.line(x), "0o+ 1d+ 2m+ 3?");
        x.retractAll();
        x.setMandatory(3, true);
        x.refuse(3);
        Due.answer("k", Probe.line(x), "0o+ 1k- 2k- 3d-");
        x.setMandatory(3, false);
        x.setMandatory(1, true);
        Due.answer("m all the way", Probe.line(x), "0o+ 1m+ 2m+ 3d-");
    }

    private static void groupLetters() {
        TreeConfigurator x = Models.flat(3);
        x.setGroup(0, 0, 1);
        Due.answer("f waits", Probe.line(x), "0o+ 1? 2? 3?");
        x.choose(2);
        Due.answer("f", Probe.line(x), "0o+ 1f- 2d+ 3f-");
        x.retractAll();
        x.setGroup(0, 0, 0);
        Due.answer("f with 0", Probe.line(x), "0o+ 1f- 2f- 3f-");
        x.setGroup(0, 2, 12);
        x.refuse(1);
        Due.answer("n", Probe.line(x), "0o+ 1d- 2n+ 3n+");
        x.retractAll();
        x.setGroup(0, 3, 3);
        Due.answer("n of all", Probe.line(x), "0o+ 1n+ 2n+ 3n+");
        TreeConfigurator below = Models.flat(1);
        below.addFeature(1, 0);
        below.addFeature(1, 0);
        below.setGroup(1, 2, 2);
        Due.answer("n waits for the parent", Probe.line(below), "0o+ 1? 2? 3?");
        below.refuse(3);
        Due.answer("g", Probe.line(below), "0o+ 1g- 2p- 3d-");
        TreeConfigurator leaf = Models.flat(2);
        leaf.setGroup(2, 1, 1);
        Due.answer("g of a leaf", Probe.line(leaf), "0o+ 1? 2g-");
        TreeConfigurator unknownParent = Models.chain(3);
        unknownParent.setGroup(1, 0, 0);
        Due.answer("f waits for the parent", Probe.line(unknownParent), "0o+ 1? 2?");
        unknownParent.choose(1);
        Due.answer("f then", Probe.line(unknownParent), "0o+ 1d+ 2f-");
    }

    private static void ruleLetters() {
        TreeConfigurator x = Models.flat(3);
        x.require(1, 2);
        x.choose(1);
        Due.answer("requires, forward", Probe.line(x), "0o+ 1d+ 2r+ 3?");
        x.retractAll();
        x.refuse(2);
        Due.answer("requires, backward", Probe.line(x), "0o+ 1r- 2d- 3?");
        x.retractAll();
        x.choose(2);
        Due.answer("requires, met", Probe.line(x), "0o+ 1? 2d+ 3?");
        x.retractAll();
        x.refuse(1);
        Due.answer("requires, idle", Probe.line(x), "0o+ 1d- 2? 3?");
        x.retractAll();
        x.exclude(3, 1);
        x.choose(3);
        Due.answer("excludes, the second", Probe.line(x), "0o+ 1r- 2? 3d+");
        x.retractAll();
        x.choose(1);
        Due.answer("excludes, the first", Probe.line(x), "0o+ 1d+ 2r+ 3r-");
        x.retractAll();
        x.refuse(1);
        Due.answer("excludes, met", Probe.line(x), "0o+ 1d- 2? 3?");
        anyLetters();
        rootInRules();
    }

    private static void anyLetters() {
        TreeConfigurator x = Models.flat(3);
        x.any(1, 2, 3);
        x.refuse(1);
        Due.answer("any, two left", Probe.line(x), "0o+ 1d- 2? 3?");
        x.refuse(3);
        Due.answer("any, the second left", Probe.line(x), "0o+ 1d- 2r+ 3d-");
        x.retract(1);
        x.refuse(2);
        Due.answer("any, the first left", Probe.line(x), "0o+ 1r+ 2d- 3d-");
        x.retract(3);
        x.refuse(1);
        Due.answer("any, the third left", Probe.line(x), "0o+ 1d- 2d- 3r+");
        x.retract(1);
        x.choose(1);
        Due.answer("any, met", Probe.line(x), "0o+ 1d+ 2d- 3?");
        x.retract(1);
        x.lift(0);
        x.refuse(1);
        Due.answer("any, lifted", Probe.line(x), "0o+ 1d- 2d- 3?");
    }

    private static void rootInRules() {
        TreeConfigurator x = Models.flat(3);
        x.require(0, 1);
        x.exclude(2, 0);
        x.any(2, 0, 3);
        x.require(3, 0);
        Due.answer("rules with the root", Probe.line(x), "0o+ 1r+ 2r- 3?");
        Due.answer("reasonRule(1)", x.reasonRule(1), 0);
        Due.answer("reasonRule(2)", x.reasonRule(2), 1);
    }

    private static void lowestRule() {
        TreeConfigurator x = Models.flat(4);
        x.any(1, 2, 3);
        x.require(1, 4);
        x.require(2, 4);
        x.require(2, 4);
        x.exclude(3, 4);
        x.choose(2);
        Due.answer("reasonRule(4)", x.reasonRule(4), 2);
        x.lift(2);
        Due.answer("reasonRule(4), 2 lifted", x.reasonRule(4), 3);
        Due.answer("reasonRule(3)", x.reasonRule(3), 4);
        x.choose(1);
        Due.answer("reasonRule(4), 1 chosen", x.reasonRule(4), 1);
        x.retractAll();
        x.refuse(4);
        Due.answer("reasonRule(1)", x.reasonRule(1), 1);
        Due.answer("reasonRule(2)", x.reasonRule(2), 3);
        Due.answer("reasonRule(3), by any", x.reasonRule(3), 0);
    }

    /** Where several letters apply, the first of the list is told. */
    private static void letterOrder() {
        TreeConfigurator c = Models.chain(3);
        c.setMandatory(1, true);
        c.choose(2);
        Due.answer("c before m", c.reasonOf(1), 'c');
        TreeConfigurator p = Models.chain(4);
        p.setMandatory(3, true);
        p.refuse(3);
        p.refuse(1);
        Due.answer("p before k", p.reasonOf(2), 'p');
        TreeConfigurator m = Models.flat(2);
        m.setGroup(0, 2, 2);
        m.require(0, 1);
        m.setMandatory(1, true);
        Due.answer("m before n and r", m.reasonOf(1), 'm');
        Due.answer("n after m", m.reasonOf(2), 'n');
        TreeConfigurator k = Models.flat(2);
        k.addFeature(1, 0);
        k.setMandatory(3, true);
        k.setGroup(1, 1, 1);
        k.setGroup(0, 0, 1);
        k.choose(2);
        Due.answer("f before g and r", reasonAfterExclude(k, 1), 'f');
        k.refuse(3);
        Due.answer("k before f and g", k.reasonOf(1), 'k');
        TreeConfigurator n = Models.flat(2);
        n.setGroup(0, 1, 12);
        n.require(0, 2);
        n.refuse(1);
        Due.answer("n before r", n.reasonOf(2), 'n');
        TreeConfigurator g = Models.flat(2);
        g.setGroup(2, 1, 1);
        Due.answer("g before r", reasonAfterExclude(g, 2), 'g');
    }

    private static char reasonAfterExclude(TreeConfigurator x, int feature) {
        x.exclude(0, feature);
        return x.reasonOf(feature);
    }

    /** After each step the lowest-numbered feature comes first again. */
    private static void lowestFeatureFirst() {
        TreeConfigurator y = Models.flat(4);
        y.require(4, 2);
        y.require(2, 1);
        y.require(1, 3);
        y.require(4, 3);
        y.choose(4);
        Due.answer("a chain of rules", Probe.line(y), "0o+ 1r+ 2r+ 3r+ 4d+");
        Due.answer("1 comes before 3", y.reasonRule(3), 2);
        y.lift(2);
        Due.answer("3 by the rule that is left", y.reasonRule(3), 3);
        TreeConfigurator feature = Models.flat(2);
        feature.setGroup(0, 0, 1);
        feature.setMandatory(2, true);
        feature.exclude(0, 1);
        Due.answer("the lowest feature before the first letter", Probe.line(feature), "0o+ 1r- 2m+");
        TreeConfigurator lower = Models.flat(2);
        lower.setGroup(0, 0, 1);
        lower.setMandatory(1, true);
        lower.exclude(0, 2);
        Due.answer("the lowest feature, not the highest", Probe.line(lower), "0o+ 1m+ 2f-");
        TreeConfigurator z = Models.flat(4);
        z.require(3, 1);
        z.setGroup(0, 3, 4);
        z.exclude(3, 2);
        z.choose(3);
        Due.answer("1 in, 2 out, then 4 is needed", Probe.line(z), "0o+ 1r+ 2r- 3d+ 4n+");
        TreeConfigurator w = Models.flat(4);
        w.setGroup(0, 0, 2);
        w.require(4, 2);
        w.exclude(4, 3);
        w.choose(4);
        Due.answer("2 in first, then 1 and 3 out", Probe.line(w), "0o+ 1f- 2r+ 3f- 4d+");
    }

    private static void answers() {
        TreeConfigurator x = Models.decided();
        Due.answer("known(0)", x.known(0), 'i');
        Due.answer("known(3)", x.known(3), 'n');
        Due.answer("reasonOf(0)", x.reasonOf(0), 'o');
        Due.answer("reasonOf(3)", x.reasonOf(3), 'r');
        Due.answer("reasonRule(3)", x.reasonRule(3), 1);
        Due.answer("reasonOf(4)", x.reasonOf(4), 'n');
        Due.answer("reasonOf(5)", x.reasonOf(5), 'd');
        Due.answer("unknown()", x.unknown(), 0);
        x.retract(5);
        Due.answer("known(4)", x.known(4), 'u');
        Due.answer("known(5)", x.known(5), 'u');
        Due.answer("unknown() then", x.unknown(), 2);
        Due.answer("unknown() of all", Models.full().unknown(), 11);
    }

    private static void refusals() {
        Due.refusal("known(-1)", INDEX, Models::decided, x -> x.known(-1));
        Due.refusal("known(7)", INDEX, Models::decided, x -> x.known(7));
        Due.refusal("known(12)", INDEX, Models::full, x -> x.known(12));
        Due.refusal("reasonOf(-1)", INDEX, Models::decided, x -> x.reasonOf(-1));
        Due.refusal("reasonOf(7)", INDEX, Models::decided, x -> x.reasonOf(7));
        Due.refusal("reasonOf(2)", NONE, Models::bicycle, x -> x.reasonOf(2));
        Due.refusal("reasonOf(11)", NONE, Models::full, x -> x.reasonOf(11));
        Due.refusal("reasonRule(-1)", INDEX, Models::decided, x -> x.reasonRule(-1));
        Due.refusal("reasonRule(7)", INDEX, Models::decided, x -> x.reasonRule(7));
        Due.refusal("reasonRule(0), o", NONE, Models::decided, x -> x.reasonRule(0));
        Due.refusal("reasonRule(1), m", NONE, Models::decided, x -> x.reasonRule(1));
        Due.refusal("reasonRule(5), d", NONE, Models::decided, x -> x.reasonRule(5));
        Due.refusal("reasonRule(2), unknown", NONE, Models::bicycle, x -> x.reasonRule(2));
        TreeConfigurator x = Models.decided();
        x.reasonRule(3);
        x.retractAll();
        Due.answer("reasonRule(3), no more", Due.thrownBy(() -> x.reasonRule(3)),
                "NoSuchElementException");
        x.refuse(3);
        Due.answer("reasonRule(3), refused", Due.thrownBy(() -> x.reasonRule(3)),
                "NoSuchElementException");
    }
}
