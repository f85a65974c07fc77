/** Promise 1: a new object, which is also the empty model: one feature, no rule, no layer. */
public final class NewObjectTest {
    public static void main(String[] args) throws IllegalAccessException {
        Cases.run(NewObjectTest.class);
    }

    static void promise1_theRootAlone() {
        TreeConfigurator x = new TreeConfigurator();
        Due.answer("known(0)", x.known(0), 'i');
        Due.answer("known(1)", Due.thrownBy(() -> x.known(1)), "IndexOutOfBoundsException");
        Due.answer("the line", Probe.line(x), "0o+");
        Due.answer("isConfiguration(1)", x.isConfiguration(1), true);
        Due.answer("isConfiguration(0)", x.isConfiguration(0), false);
        Due.answer("isConfiguration(2)", Due.thrownBy(() -> x.isConfiguration(2)),
                "IllegalArgumentException");
        Due.answer("addFeature(0, 1)", x.addFeature(0, 1), 1);
    }

    static void promise1_noRules() {
        TreeConfigurator x = new TreeConfigurator();
        Due.answer("lift(0)", Due.thrownBy(() -> x.lift(0)), "NoSuchElementException");
        x.addFeature(0, 1);
        Due.answer("the first rule", x.require(0, 1), 0);
        Due.answer("lift(0) then", x.lift(0), 0);
    }

    static void promise1_noDecisions() {
        TreeConfigurator x = new TreeConfigurator();
        Due.answer("retract(0)", Due.thrownBy(() -> x.retract(0)), "IllegalStateException");
        Due.answer("retractAll()", x.retractAll(), 0);
        Due.answer("stateOf(0)", x.stateOf(0), 'a');
        Due.answer("reasonOf(0)", x.reasonOf(0), 'o');
    }

    static void promise1_noLayerAdded() {
        TreeConfigurator x = new TreeConfigurator();
        Due.answer("removeLayer()", Due.thrownBy(x::removeLayer), "IllegalStateException");
        Due.answer("price(1)", x.price(1), 0);
        Due.answer("price(0)", x.price(0), 0);
        Due.answer("the first layer that is added", x.addPercent(0), 2);
    }

    static void promise1_eachQuestionIsAnswered() {
        TreeConfigurator x = new TreeConfigurator();
        Due.answer("stateByAll(0)", x.stateByAll(0), 'a');
        Due.answer("reasonRule(0)", Due.thrownBy(() -> x.reasonRule(0)), "NoSuchElementException");
        Due.answer("unknown()", x.unknown(), 0);
        Due.answer("completions()", x.completions(), 1L);
        Due.answer("completionsByAll()", x.completionsByAll(), 1L);
        Due.answer("cheapest()", x.cheapest(), 1);
        Due.answer("cheapestByAll()", x.cheapestByAll(), 1);
        Due.answer("fewest(0, true)", x.fewest(0, true), 0);
        Due.answer("toRetract(0, true)", x.toRetract(0, true), 0);
        Due.answer("lineLength()", x.lineLength(), 3);
        Due.answer("lineAt(2)", x.lineAt(2), '+');
        Due.answer("knownShare()", x.knownShare(), 1.0f);
        Due.answer("meanPrice()", x.meanPrice(), 0.0);
        Due.answer("isSound()", x.isSound(), true);
        Due.answer("setGroup(0, 0, 12)", x.setGroup(0, 0, 12), 0);
        Due.answer("complete()", x.complete(), 0);
    }

    static void promise1_objectsAreApart() {
        TreeConfigurator one = Models.decided();
        TreeConfigurator other = new TreeConfigurator();
        other.addFeature(0, 9);
        other.choose(1);
        other.addPercent(10);
        other.require(1, 0);
        Due.answer("the new object's line", Probe.line(other), "0o+ 1d+");
        Due.answer("the other object", Probe.of(one), Probe.of(Models.decided()));
    }
}
