/** Promises 19 to 21: isConfiguration, completions and completionsByAll. */
public final class CompletionTest {
    public static void main(String[] args) {
        configurations();
        refusals();
        completions();
        Due.end();
    }

    private static void configurations() {
        TreeConfigurator x = Models.bicycle();
        Due.answer("1 and 4", x.isConfiguration(0b0010011), true);
        Due.answer("without the root", x.isConfiguration(0b0010010), false);
        Due.answer("without the mandatory 1", x.isConfiguration(0b0000101), false);
        Due.answer("too few children of 1", x.isConfiguration(0b0000011), false);
        Due.answer("too many children of 1", x.isConfiguration(0b0111011), false);
        Due.answer("6 without its parent 2", x.isConfiguration(0b1010011), false);
        Due.answer("6 with its parent 2", x.isConfiguration(0b1010111), true);
        Due.answer("6 and 3", x.isConfiguration(0b1001111), false);
        Due.answer("2 without 4: the rule is lifted", x.isConfiguration(0b0001111), true);
        Due.answer("no set", x.isConfiguration(0), false);
        TreeConfigurator y = Models.decided();
        Due.answer("decisions do not matter", y.isConfiguration(0b0001111), true);
        Due.answer("nor refused ones", y.isConfiguration(0b0100011), true);
        Due.answer("all 12", Models.full().isConfiguration(4095), true);
        Due.answer("the highest of 12", Models.full().isConfiguration(2049), true);
        Due.answer("nothing of 12", Models.full().isConfiguration(0), false);
    }

    private static void refusals() {
        Class<IllegalArgumentException> argument = IllegalArgumentException.class;
        Due.refusal("isConfiguration(-1)", argument, Models::decided, x -> x.isConfiguration(-1));
        Due.refusal("isConfiguration(128)", argument, Models::decided, x -> x.isConfiguration(128));
        Due.refusal("isConfiguration(129)", argument, Models::decided, x -> x.isConfiguration(129));
        Due.refusal("isConfiguration(min)", argument, Models::decided,
                x -> x.isConfiguration(Integer.MIN_VALUE));
        Due.refusal("isConfiguration(max)", argument, Models::decided,
                x -> x.isConfiguration(Integer.MAX_VALUE));
        Due.refusal("isConfiguration(4096)", argument, Models::full, x -> x.isConfiguration(4096));
        Due.refusal("isConfiguration(2), new", argument, TreeConfigurator::new,
                x -> x.isConfiguration(2));
    }

    private static void completions() {
        counts("one feature", new TreeConfigurator(), 1);
        counts("11 children", Models.flat(11), 2048);
        counts("a chain of 12", Models.chain(12), 12);
        counts("the bicycle", Models.bicycle(), 15);
        counts("the decided bicycle", Models.decided(), 1);
        counts("the full one", Models.full(), 2048);
        TreeConfigurator x = Models.flat(11);
        x.setGroup(0, 5, 5);
        counts("5 of 11", x, 462);
        x.choose(11);
        counts("4 of 10", x, 210);
        x.refuse(1);
        counts("4 of 9", x, 126);
        x.retractAll();
        x.setMandatory(3, true);
        counts("5 of 11 with 3", x, 210);
        TreeConfigurator y = Models.bicycle();
        y.choose(2);
        counts("with 2", y, 9);
        y.refuse(6);
        counts("with 2, without 6", y, 6);
    }

    private static void counts(String which, TreeConfigurator x, long want) {
        Due.answer("completions() of " + which, x.completions(), want);
        Due.answer("completionsByAll() of " + which, x.completionsByAll(), want);
    }
}
