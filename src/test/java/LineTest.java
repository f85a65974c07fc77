import java.util.function.BiConsumer;

/** Promises 33 to 35: lineLength, lineAt and knownShare. */
public final class LineTest {
    private static final Class<IndexOutOfBoundsException> INDEX = IndexOutOfBoundsException.class;

    public static void main(String[] args) throws IllegalAccessException {
        Cases.run(LineTest.class);
    }

    // lineLength

    static void promise33_shortestLine() {
        Due.answer("one feature", new TreeConfigurator().lineLength(), 3);
    }

    static void promise33_longestLine() {
        Due.answer("12 known features", allKnown().lineLength(), 49);
        Due.answer("11 unknown ones", Models.flat(11).lineLength(), 38);
    }

    static void promise33_numbersOfTwoSigns() {
        Due.answer("10 features", Models.flat(9).lineLength(), 30);
        Due.answer("11 features", Models.flat(10).lineLength(), 34);
        TreeConfigurator x = Models.flat(10);
        x.choose(10);
        Due.answer("11 features, the last known", x.lineLength(), 35);
    }

    static void promise33_reasonOnlyIfKnown() {
        TreeConfigurator x = Models.flat(2);
        Due.answer("two unknown", x.lineLength(), 9);
        x.refuse(1);
        Due.answer("one unknown", x.lineLength(), 10);
        x.choose(2);
        Due.answer("none unknown", x.lineLength(), 11);
        x.retractAll();
        Due.answer("two unknown again", x.lineLength(), 9);
    }

    // lineAt

    static void promise34_theDocumentsExample() {
        TreeConfigurator x = Models.flat(2);
        x.refuse(1);
        Due.answer("the line", Probe.line(x), "0o+ 1d- 2?");
    }

    static void promise34_firstAndLastIndex() {
        TreeConfigurator x = new TreeConfigurator();
        Due.answer("lineAt(0), one feature", x.lineAt(0), '0');
        Due.answer("lineAt(2), one feature", x.lineAt(2), '+');
        TreeConfigurator y = allKnown();
        Due.answer("lineAt(0), 12 features", y.lineAt(0), '0');
        Due.answer("lineAt(48), 12 features", y.lineAt(48), '-');
        TreeConfigurator z = Models.flat(11);
        Due.answer("lineAt(37), 11 unknown", z.lineAt(37), '?');
    }

    static void promise34_eachSign() {
        Due.answer("one feature", Probe.line(new TreeConfigurator()), "0o+");
        Due.answer("11 unknown", Probe.line(Models.flat(11)),
                "0o+ 1? 2? 3? 4? 5? 6? 7? 8? 9? 10? 11?");
        Due.answer("12 known", Probe.line(allKnown()),
                "0o+ 1f- 2f- 3f- 4f- 5f- 6f- 7f- 8f- 9f- 10d+ 11f-");
    }

    static void promise34_noSuchCharacter() {
        BiConsumer<TreeConfigurator, Integer> call = TreeConfigurator::lineAt;
        Outside.refuses("one feature", INDEX, TreeConfigurator::new, call,
                3, -1, 4, 48, 63, 64, Integer.MAX_VALUE, Integer.MIN_VALUE);
        Outside.refuses("7 features", INDEX, Models::decided, call, 27, -1, 28, 49);
        Outside.refuses("11 unknown", INDEX, Models::full, call, 38, -1, 48, 49);
        Outside.refuses("12 known", INDEX, LineTest::allKnown, call,
                49, -1, 50, 63, 64, 65, Integer.MAX_VALUE, Integer.MIN_VALUE);
    }

    static void promise34_afterALongerLine() {
        TreeConfigurator x = allKnown();
        Due.answer("lineAt(48)", x.lineAt(48), '-');
        x.retractAll();
        x.setGroup(0, 0, 12);
        Due.answer("lineAt(37)", x.lineAt(37), '?');
        Due.answer("lineAt(38)", Due.thrownBy(() -> x.lineAt(38)), "IndexOutOfBoundsException");
    }

    /** The longest line: 12 features, all of them known. */
    private static TreeConfigurator allKnown() {
        TreeConfigurator x = Models.flat(11);
        x.choose(10);
        x.setGroup(0, 1, 1);
        return x;
    }

    // knownShare

    static void promise35_all() {
        Due.answer("1 of 1", new TreeConfigurator().knownShare(), 1.0f);
        Due.answer("12 of 12", allKnown().knownShare(), 1.0f);
    }

    static void promise35_theRootAlone() {
        Due.answer("1 of 2", Models.flat(1).knownShare(), 0.5f);
        Due.answer("1 of 12", Models.full().knownShare(), 1.0f / 12.0f);
    }

    static void promise35_bothConvertedToFloat() {
        for (int features = 2; features <= 12; features++) {
            TreeConfigurator x = Models.flat(features - 1);
            for (int known = 1; known < features; known++) {
                float due = (float) known / (float) features;
                Due.answer(known + " of " + features, x.knownShare(), due);
                x.refuse(known);
            }
        }
    }

    static void promise35_deducedOnesAreKnown() {
        Due.answer("2 of 7", Models.bicycle().knownShare(), 2.0f / 7.0f);
        Due.answer("7 of 7", Models.decided().knownShare(), 1.0f);
    }
}
