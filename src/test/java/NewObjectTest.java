/** Promise 1: a new object. */
public final class NewObjectTest {
    public static void main(String[] args) {
        TreeConfigurator x = new TreeConfigurator();
        Due.answer("stateOf(0)", x.stateOf(0), 'a');
        Due.answer("stateByAll(0)", x.stateByAll(0), 'a');
        Due.answer("known(0)", x.known(0), 'i');
        Due.answer("reasonOf(0)", x.reasonOf(0), 'o');
        Due.answer("stateOf(1)", Due.thrownBy(() -> x.stateOf(1)), "IndexOutOfBoundsException");
        Due.answer("unknown()", x.unknown(), 0);
        Due.answer("completions()", x.completions(), 1L);
        Due.answer("completionsByAll()", x.completionsByAll(), 1L);
        Due.answer("isConfiguration(1)", x.isConfiguration(1), true);
        Due.answer("isConfiguration(0)", x.isConfiguration(0), false);
        Due.answer("price(1)", x.price(1), 0);
        Due.answer("price(0)", x.price(0), 0);
        Due.answer("cheapest()", x.cheapest(), 1);
        Due.answer("cheapestByAll()", x.cheapestByAll(), 1);
        Due.answer("meanPrice()", x.meanPrice(), 0.0);
        Due.answer("knownShare()", x.knownShare(), 1.0f);
        Due.answer("the line", Probe.line(x), "0o+");
        Due.answer("isSound()", x.isSound(), true);
        Due.answer("complete()", x.complete(), 0);
        Due.answer("retractAll()", x.retractAll(), 0);
        Due.answer("lift(0)", Due.thrownBy(() -> x.lift(0)), "NoSuchElementException");
        Due.answer("removeLayer()", Due.thrownBy(x::removeLayer), "IllegalStateException");
        Due.answer("retract(0)", Due.thrownBy(() -> x.retract(0)), "IllegalStateException");
        Due.answer("setGroup(0, 0, 12)", x.setGroup(0, 0, 12), 0);
        objectsAreApart();
        Due.end();
    }

    private static void objectsAreApart() {
        TreeConfigurator one = Models.decided();
        String before = Probe.line(one);
        TreeConfigurator other = new TreeConfigurator();
        other.addFeature(0, 9);
        other.choose(1);
        other.addPercent(10);
        Due.answer("the line of another object", Probe.line(one), before);
        Due.answer("the new object's line", Probe.line(other), "0o+ 1d+");
    }
}
