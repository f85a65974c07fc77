/** Promises 9 to 12: choose, refuse, retract and retractAll. */
public final class DecisionTest {
    private static final Class<IndexOutOfBoundsException> INDEX = IndexOutOfBoundsException.class;
    private static final Class<IllegalArgumentException> ARGUMENT = IllegalArgumentException.class;
    private static final Class<IllegalStateException> STATE = IllegalStateException.class;
    private static final Class<UnsupportedOperationException> NONE =
            UnsupportedOperationException.class;

    public static void main(String[] args) throws IllegalAccessException {
        Cases.run(DecisionTest.class);
    }

    // choose

    static void promise9_tellsTheUnknownOnes() {
        TreeConfigurator x = Models.bicycle();
        Due.answer("unknown()", x.unknown(), 5);
        Due.answer("choose(6)", x.choose(6), 2);
        Due.answer("the line", Probe.line(x), "0o+ 1m+ 2c+ 3r- 4? 5? 6d+");
        Due.answer("stateOf(6)", x.stateOf(6), 'c');
        Due.answer("choose(4)", x.choose(4), 1);
        Due.answer("choose(5)", x.choose(5), 0);
        Due.answer("completions()", x.completions(), 1L);
    }

    static void promise9_fewestAndMostUnknownAfterIt() {
        Due.answer("the only one", Models.flat(1).choose(1), 0);
        Due.answer("the first of 11", Models.flat(11).choose(1), 10);
        Due.answer("the last of 11", Models.flat(11).choose(11), 10);
        Due.answer("the last of a chain", Models.chain(12).choose(11), 0);
        TreeConfigurator x = Models.flat(11);
        for (int feature = 1; feature <= 11; feature++) {
            Due.answer("choose(" + feature + ")", x.choose(feature), 11 - feature);
        }
        Due.answer("cheapest()", x.cheapest(), 4095);
    }

    static void promise9_oneThatIsKnownToBeIn() {
        TreeConfigurator x = Models.bicycle();
        Due.answer("choose(1)", x.choose(1), 5);
        Due.answer("its reason", x.reasonOf(1), 'd');
        Due.answer("its state", x.stateOf(1), 'c');
    }

    static void promise9_noSuchFeature() {
        Outside.features("choose", TreeConfigurator::choose);
    }

    static void promise9_theRoot() {
        Due.refusal("7 features", ARGUMENT, Models::decided, x -> x.choose(0));
        Due.refusal("one feature", ARGUMENT, TreeConfigurator::new, x -> x.choose(0));
        Due.refusal("12 features", ARGUMENT, Models::full, x -> x.choose(0));
    }

    static void promise9_decidedAlready() {
        Due.refusal("chosen", STATE, Models::decided, x -> x.choose(6));
        Due.refusal("refused", STATE, Models::decided, x -> x.choose(5));
        Due.refusal("the first of 12", STATE, Models::fullAndDecided, x -> x.choose(1));
        Due.refusal("the last of 12", STATE, DecisionTest::allRefused, x -> x.choose(11));
    }

    static void promise9_noCompletion() {
        Due.refusal("known to be out", NONE, Models::decided, x -> x.choose(3));
        Due.refusal("unknown, but in none", NONE, DecisionTest::hidden, x -> x.choose(1));
        Due.refusal("more than the greatest number", NONE, DecisionTest::twoOfThree,
                x -> x.choose(3));
        Due.refusal("more than the greatest number, below", NONE, DecisionTest::twoOfThree,
                x -> x.choose(4));
    }

    static void promise9_orderOfExceptions() {
        Due.refusal("refused, no completion", STATE, Models::decided, x -> x.choose(5));
        Due.refusal("refused, excluded", STATE, DecisionTest::refusedAndExcluded,
                x -> x.choose(2));
    }

    // refuse

    static void promise10_tellsTheUnknownOnes() {
        TreeConfigurator x = Models.bicycle();
        Due.answer("refuse(2)", x.refuse(2), 3);
        Due.answer("the line", Probe.line(x), "0o+ 1m+ 2d- 3? 4? 5? 6p-");
        Due.answer("stateOf(2)", x.stateOf(2), 'r');
        Due.answer("refuse(3)", x.refuse(3), 2);
        Due.answer("refuse(4)", x.refuse(4), 0);
        Due.answer("the line then", Probe.line(x), "0o+ 1m+ 2d- 3d- 4d- 5n+ 6p-");
    }

    static void promise10_fewestAndMostUnknownAfterIt() {
        Due.answer("the only one", Models.flat(1).refuse(1), 0);
        Due.answer("the first of 11", Models.flat(11).refuse(1), 10);
        Due.answer("the last of 11", Models.flat(11).refuse(11), 10);
        Due.answer("the first of a chain", Models.chain(12).refuse(1), 0);
        TreeConfigurator x = Models.flat(11);
        for (int feature = 1; feature <= 11; feature++) {
            Due.answer("refuse(" + feature + ")", x.refuse(feature), 11 - feature);
        }
        Due.answer("cheapest()", x.cheapest(), 1);
    }

    static void promise10_oneThatIsKnownToBeOut() {
        TreeConfigurator x = Models.decided();
        Due.answer("refuse(3)", x.refuse(3), 0);
        Due.answer("its reason", x.reasonOf(3), 'd');
        Due.answer("its state", x.stateOf(3), 'r');
    }

    static void promise10_noSuchFeature() {
        Outside.features("refuse", TreeConfigurator::refuse);
    }

    static void promise10_theRoot() {
        Due.refusal("7 features", ARGUMENT, Models::decided, x -> x.refuse(0));
        Due.refusal("one feature", ARGUMENT, TreeConfigurator::new, x -> x.refuse(0));
        Due.refusal("12 features", ARGUMENT, Models::full, x -> x.refuse(0));
    }

    static void promise10_decidedAlready() {
        Due.refusal("chosen", STATE, Models::decided, x -> x.refuse(6));
        Due.refusal("refused", STATE, Models::decided, x -> x.refuse(5));
        Due.refusal("the first of 12", STATE, Models::fullAndDecided, x -> x.refuse(1));
        Due.refusal("the last of 12", STATE, DecisionTest::allRefused, x -> x.refuse(11));
    }

    static void promise10_noCompletion() {
        Due.refusal("mandatory", NONE, Models::decided, x -> x.refuse(1));
        Due.refusal("the parent of a chosen one", NONE, Models::decided, x -> x.refuse(2));
        Due.refusal("the last one left", NONE, Models::decided, x -> x.refuse(4));
        Due.refusal("unknown, but in all", NONE, DecisionTest::hidden, x -> x.refuse(4));
    }

    static void promise10_orderOfExceptions() {
        Due.refusal("the root, no completion", ARGUMENT, Models::bicycle, x -> x.refuse(0));
        Due.refusal("chosen, no completion", STATE, DecisionTest::chosenAndMandatory,
                x -> x.refuse(1));
    }

    // retract

    static void promise11_tellsWhatWasDecided() {
        TreeConfigurator x = Models.decided();
        Due.answer("retract(6)", x.retract(6), 'c');
        Due.answer("the line", Probe.line(x), "0o+ 1m+ 2? 3? 4? 5d- 6?");
        Due.answer("retract(5)", x.retract(5), 'r');
        Due.answer("the line then", Probe.line(x), "0o+ 1m+ 2? 3? 4? 5? 6?");
        Due.answer("choose(5) then", x.choose(5), 4);
    }

    static void promise11_feature1AndFeature11() {
        TreeConfigurator x = Models.flat(11);
        x.choose(1);
        x.refuse(11);
        Due.answer("retract(1)", x.retract(1), 'c');
        Due.answer("retract(11)", x.retract(11), 'r');
        Due.answer("unknown()", x.unknown(), 11);
    }

    static void promise11_noSuchFeature() {
        Outside.features("retract", TreeConfigurator::retract);
    }

    static void promise11_notDecided() {
        Due.refusal("the root", STATE, Models::decided, x -> x.retract(0));
        Due.refusal("known to be in", STATE, Models::decided, x -> x.retract(2));
        Due.refusal("known to be out", STATE, Models::decided, x -> x.retract(3));
        Due.refusal("unknown", STATE, Models::bicycle, x -> x.retract(6));
        Due.refusal("one feature", STATE, TreeConfigurator::new, x -> x.retract(0));
        Due.refusal("the last of 12", STATE, Models::fullAndDecided, x -> x.retract(11));
    }

    static void promise11_twice() {
        TreeConfigurator x = Models.decided();
        x.retract(6);
        Due.answer("retract(6)", Due.thrownBy(() -> x.retract(6)), "IllegalStateException");
        Due.answer("the other decision", x.stateOf(5), 'r');
    }

    // retractAll

    static void promise12_noDecision() {
        Due.answer("one feature", new TreeConfigurator().retractAll(), 0);
        TreeConfigurator x = Models.bicycle();
        Due.answer("none taken", x.retractAll(), 0);
        Due.answer("what it leaves", Probe.of(x), Probe.of(Models.bicycle()));
    }

    static void promise12_someDecisions() {
        TreeConfigurator x = Models.decided();
        Due.answer("retractAll()", x.retractAll(), 2);
        Due.answer("stateOf(6)", x.stateOf(6), 'o');
        Due.answer("stateOf(5)", x.stateOf(5), 'o');
        Due.answer("retractAll() again", x.retractAll(), 0);
        Due.answer("what it leaves", Probe.of(x), Probe.of(Models.bicycle()));
    }

    static void promise12_allDecisions() {
        TreeConfigurator x = allRefused();
        Due.answer("11 refused", x.retractAll(), 11);
        Due.answer("unknown()", x.unknown(), 11);
        Due.answer("completions()", x.completions(), 2048L);
        for (int feature = 1; feature <= 11; feature++) {
            x.choose(feature);
        }
        Due.answer("11 chosen", x.retractAll(), 11);
        Due.answer("the line", Probe.line(x), "0o+ 1? 2? 3? 4? 5? 6? 7? 8? 9? 10? 11?");
    }

    private static TreeConfigurator allRefused() {
        TreeConfigurator x = Models.full();
        for (int feature = 1; feature <= 11; feature++) {
            x.refuse(feature);
        }
        return x;
    }

    /** 1 leads to 2 and to 3, which exclude each other; 4 or 1 has to be in; 5 is refused. */
    private static TreeConfigurator hidden() {
        TreeConfigurator x = Models.flat(5);
        x.require(1, 2);
        x.require(1, 3);
        x.exclude(2, 3);
        x.any(1, 4, 5);
        x.refuse(5);
        return x;
    }

    private static TreeConfigurator twoOfThree() {
        TreeConfigurator x = Models.flat(3);
        x.addFeature(3, 0);
        x.setGroup(0, 0, 2);
        x.choose(1);
        x.choose(2);
        return x;
    }

    private static TreeConfigurator refusedAndExcluded() {
        TreeConfigurator x = Models.flat(2);
        x.exclude(0, 2);
        x.refuse(2);
        return x;
    }

    private static TreeConfigurator chosenAndMandatory() {
        TreeConfigurator x = Models.flat(2);
        x.setMandatory(1, true);
        x.choose(1);
        return x;
    }
}
