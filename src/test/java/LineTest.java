/** Promises 33 to 35: lineLength, lineAt and knownShare. */
public final class LineTest {
    public static void main(String[] args) {
        lines();
        refusals();
        shares();
        Due.end();
    }

    private static void lines() {
        TreeConfigurator x = Models.flat(2);
        x.refuse(1);
        Due.answer("the document's example", Probe.line(x), "0o+ 1d- 2?");
        Due.answer("its length", x.lineLength(), 10);
        Due.answer("lineAt(0)", x.lineAt(0), '0');
        Due.answer("lineAt(3)", x.lineAt(3), ' ');
        Due.answer("lineAt(9)", x.lineAt(9), '?');
        Due.answer("a new object", new TreeConfigurator().lineLength(), 3);
        TreeConfigurator y = Models.flat(11);
        Due.answer("12 features", Probe.line(y),
                "0o+ 1? 2? 3? 4? 5? 6? 7? 8? 9? 10? 11?");
        Due.answer("their length", y.lineLength(), 38);
        y.choose(10);
        y.setGroup(0, 1, 1);
        Due.answer("12 known features", Probe.line(y),
                "0o+ 1f- 2f- 3f- 4f- 5f- 6f- 7f- 8f- 9f- 10d+ 11f-");
        Due.answer("the length of the longest line", y.lineLength(), 49);
        Due.answer("lineAt(48)", y.lineAt(48), '-');
        y.retractAll();
        y.setGroup(0, 0, 12);
        Due.answer("a shorter line", y.lineLength(), 38);
        Due.answer("beyond the shorter line", Due.thrownBy(() -> y.lineAt(38)),
                "IndexOutOfBoundsException");
    }

    private static void refusals() {
        Class<IndexOutOfBoundsException> index = IndexOutOfBoundsException.class;
        Due.refusal("lineAt(-1)", index, Models::decided, x -> x.lineAt(-1));
        Due.refusal("lineAt(27)", index, Models::decided, x -> x.lineAt(27));
        Due.refusal("lineAt(max)", index, Models::decided, x -> x.lineAt(Integer.MAX_VALUE));
        Due.refusal("lineAt(min)", index, Models::decided, x -> x.lineAt(Integer.MIN_VALUE));
        Due.refusal("lineAt(3), new", index, TreeConfigurator::new, x -> x.lineAt(3));
        Due.answer("lineAt(26)", Models.decided().lineAt(26), '+');
    }

    private static void shares() {
        TreeConfigurator x = Models.flat(2);
        Due.answer("knownShare() of 1 in 3", x.knownShare(), 1.0f / 3.0f);
        x.choose(1);
        Due.answer("knownShare() of 2 in 3", x.knownShare(), 2.0f / 3.0f);
        x.refuse(2);
        Due.answer("knownShare() of 3 in 3", x.knownShare(), 1.0f);
        Due.answer("knownShare() of 1 in 12", Models.full().knownShare(), 1.0f / 12.0f);
        Due.answer("knownShare() of 2 in 7", Models.bicycle().knownShare(), 2.0f / 7.0f);
    }
}
