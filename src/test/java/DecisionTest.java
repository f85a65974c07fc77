/** Promises 9 to 12: choose, refuse, retract and retractAll. */
public final class DecisionTest {
    private static final Class<IndexOutOfBoundsException> INDEX = IndexOutOfBoundsException.class;
    private static final Class<IllegalArgumentException> ARGUMENT = IllegalArgumentException.class;
    private static final Class<IllegalStateException> STATE = IllegalStateException.class;
    private static final Class<UnsupportedOperationException> NONE =
            UnsupportedOperationException.class;

    public static void main(String[] args) {
        choosing();
        chooseRefused();
        refusing();
        refuseRefused();
        retracting();
        retractingAll();
        Due.end();
    }

    private static void choosing() {
        TreeConfigurator x = Models.bicycle();
        Due.answer("unknown()", x.unknown(), 5);
        Due.answer("choose(6)", x.choose(6), 2);
        Due.answer("the line", Probe.line(x), "0o+ 1m+ 2c+ 3r- 4? 5? 6d+");
        Due.answer("stateOf(6)", x.stateOf(6), 'c');
        Due.answer("choose(4)", x.choose(4), 1);
        Due.answer("choose(5)", x.choose(5), 0);
        Due.answer("completions()", x.completions(), 1L);
        TreeConfigurator decidedButKnown = Models.bicycle();
        Due.answer("choose(1), known before", decidedButKnown.choose(1), 5);
        Due.answer("its reason", decidedButKnown.reasonOf(1), 'd');
    }

    private static void chooseRefused() {
        Due.refusal("choose(7)", INDEX, Models::decided, x -> x.choose(7));
        Due.refusal("choose(-1)", INDEX, Models::decided, x -> x.choose(-1));
        Due.refusal("choose(0)", ARGUMENT, Models::decided, x -> x.choose(0));
        Due.refusal("choose(6), chosen", STATE, Models::decided, x -> x.choose(6));
        Due.refusal("choose(5), refused", STATE, Models::decided, x -> x.choose(5));
        Due.refusal("choose(3), known out", NONE, Models::decided, x -> x.choose(3));
        Due.refusal("choose(3), unknown but in no completion", NONE, DecisionTest::hidden,
                x -> x.choose(3));
    }

    private static void refusing() {
        TreeConfigurator x = Models.bicycle();
        Due.answer("refuse(2)", x.refuse(2), 3);
        Due.answer("the line", Probe.line(x), "0o+ 1m+ 2d- 3? 4? 5? 6p-");
        Due.answer("stateOf(2)", x.stateOf(2), 'r');
        Due.answer("refuse(3)", x.refuse(3), 2);
        Due.answer("refuse(4)", x.refuse(4), 0);
        Due.answer("the line then", Probe.line(x), "0o+ 1m+ 2d- 3d- 4d- 5n+ 6p-");
    }

    private static void refuseRefused() {
        Due.refusal("refuse(7)", INDEX, Models::decided, x -> x.refuse(7));
        Due.refusal("refuse(-1)", INDEX, Models::decided, x -> x.refuse(-1));
        Due.refusal("refuse(0)", ARGUMENT, Models::decided, x -> x.refuse(0));
        Due.refusal("refuse(6), chosen", STATE, Models::decided, x -> x.refuse(6));
        Due.refusal("refuse(5), refused", STATE, Models::decided, x -> x.refuse(5));
        Due.refusal("refuse(1), mandatory", NONE, Models::decided, x -> x.refuse(1));
        Due.refusal("refuse(2), parent of a chosen one", NONE, Models::decided, x -> x.refuse(2));
        Due.refusal("refuse(4), the last one left", NONE, Models::decided, x -> x.refuse(4));
    }

    private static void retracting() {
        TreeConfigurator x = Models.decided();
        Due.answer("retract(6)", x.retract(6), 'c');
        Due.answer("the line", Probe.line(x), "0o+ 1m+ 2? 3? 4? 5d- 6?");
        Due.answer("retract(5)", x.retract(5), 'r');
        Due.answer("the line then", Probe.line(x), "0o+ 1m+ 2? 3? 4? 5? 6?");
        Due.answer("choose(5) then", x.choose(5), 4);
        Due.refusal("retract(7)", INDEX, Models::decided, y -> y.retract(7));
        Due.refusal("retract(-1)", INDEX, Models::decided, y -> y.retract(-1));
        Due.refusal("retract(0)", STATE, Models::decided, y -> y.retract(0));
        Due.refusal("retract(2), deduced", STATE, Models::decided, y -> y.retract(2));
        Due.refusal("retract(4), undecided", STATE, Models::decided, y -> y.retract(4));
        Due.answer("retract twice", Due.thrownBy(() -> {
            TreeConfigurator y = Models.decided();
            y.retract(6);
            y.retract(6);
        }), "IllegalStateException");
    }

    private static void retractingAll() {
        TreeConfigurator x = Models.decided();
        Due.answer("retractAll()", x.retractAll(), 2);
        Due.answer("the line", Probe.line(x), Probe.line(Models.bicycle()));
        Due.answer("stateOf(6)", x.stateOf(6), 'o');
        Due.answer("stateOf(5)", x.stateOf(5), 'o');
        Due.answer("retractAll() again", x.retractAll(), 0);
        Due.answer("what it leaves", Probe.of(x), Probe.of(Models.bicycle()));
    }

    /** Either 1 or 2 is in, and each of them excludes 3: deduction does not see it. */
    private static TreeConfigurator hidden() {
        TreeConfigurator x = Models.flat(3);
        x.exclude(1, 3);
        x.exclude(2, 3);
        x.any(1, 2, 3);
        x.setGroup(0, 1, 2);
        x.exclude(1, 2);
        x.addFeature(3, 0);
        x.addFeature(3, 0);
        x.setGroup(3, 1, 1);
        x.require(3, 4);
        x.require(3, 5);
        return x;
    }
}
