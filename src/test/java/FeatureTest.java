/** Promises 2 to 4: addFeature, setMandatory and setGroup. */
public final class FeatureTest {
    public static void main(String[] args) {
        addingFeatures();
        addingRefused();
        mandatory();
        mandatoryRefused();
        group();
        groupRefused();
        Due.end();
    }

    private static void addingFeatures() {
        TreeConfigurator x = new TreeConfigurator();
        Due.answer("addFeature(0, 0)", x.addFeature(0, 0), 1);
        Due.answer("addFeature(1, 999)", x.addFeature(1, 999), 2);
        Due.answer("addFeature(0, 7)", x.addFeature(0, 7), 3);
        Due.answer("price of 0 and 1", x.price(0b11), 0);
        Due.answer("price of 0, 1 and 2", x.price(0b111), 999);
        Due.answer("2 without its parent 1", x.isConfiguration(0b101), false);
        Due.answer("2 with its parent 1", x.isConfiguration(0b111), true);
        Due.answer("3 below the root", x.isConfiguration(0b1001), true);
        Due.answer("a new feature is not mandatory", x.isConfiguration(0b1), true);
        Due.answer("completions()", x.completions(), 6L);
        Due.answer("setMandatory(3, true)", x.setMandatory(3, true), false);
        for (int feature = 4; feature < 12; feature++) {
            Due.answer("addFeature", x.addFeature(feature - 1, feature), feature);
        }
        Due.answer("price of all", x.price(4095), 999 + 7 + 4 + 5 + 6 + 7 + 8 + 9 + 10 + 11);
        Due.answer("children of 10", x.setGroup(10, 0, 12), 1);
        Due.answer("children of 11", x.setGroup(11, 0, 12), 0);
        Due.answer("children of 0", x.setGroup(0, 0, 12), 2);
        groupsOfNewFeatures();
    }

    /** At first the least number is 0 and the greatest one is 12. */
    private static void groupsOfNewFeatures() {
        TreeConfigurator x = Models.flat(11);
        Due.answer("the root with 11 children", x.isConfiguration(4095), true);
        Due.answer("the root without children", x.isConfiguration(1), true);
        TreeConfigurator below = Models.flat(1);
        for (int feature = 2; feature < 12; feature++) {
            below.addFeature(1, 0);
        }
        Due.answer("1 with 10 children", below.isConfiguration(4095), true);
        Due.answer("1 without children", below.isConfiguration(3), true);
        TreeConfigurator later = Models.decided();
        later.addFeature(2, 1);
        Due.answer("a feature added later", later.stateOf(7), 'o');
    }

    private static void addingRefused() {
        Class<IndexOutOfBoundsException> index = IndexOutOfBoundsException.class;
        Class<IllegalArgumentException> argument = IllegalArgumentException.class;
        Due.refusal("addFeature(7, 1)", index, Models::decided, x -> x.addFeature(7, 1));
        Due.refusal("addFeature(-1, 1)", index, Models::decided, x -> x.addFeature(-1, 1));
        Due.refusal("addFeature(min, 1)", index, Models::decided,
                x -> x.addFeature(Integer.MIN_VALUE, 1));
        Due.refusal("addFeature(max, 1)", index, Models::decided,
                x -> x.addFeature(Integer.MAX_VALUE, 1));
        Due.refusal("addFeature(0, -1)", argument, Models::decided, x -> x.addFeature(0, -1));
        Due.refusal("addFeature(0, 1000)", argument, Models::decided, x -> x.addFeature(0, 1000));
        Due.refusal("addFeature(7, -1)", index, Models::decided, x -> x.addFeature(7, -1));
        Due.refusal("a 13th", IllegalStateException.class, Models::full, x -> x.addFeature(0, 1));
        Due.refusal("a 13th below 12", index, Models::full, x -> x.addFeature(12, 1));
        Due.refusal("a 13th at 1000", argument, Models::full, x -> x.addFeature(0, 1000));
    }

    private static void mandatory() {
        TreeConfigurator x = Models.flat(2);
        Due.answer("setMandatory(1, true)", x.setMandatory(1, true), false);
        Due.answer("setMandatory(1, true) again", x.setMandatory(1, true), true);
        Due.answer("completions()", x.completions(), 2L);
        Due.answer("the root alone", x.isConfiguration(1), false);
        Due.answer("setMandatory(1, false)", x.setMandatory(1, false), true);
        Due.answer("setMandatory(1, false) again", x.setMandatory(1, false), false);
        Due.answer("completions() then", x.completions(), 4L);
        TreeConfigurator chain = Models.chain(3);
        chain.setMandatory(2, true);
        Due.answer("a mandatory child of an absent one", chain.isConfiguration(1), true);
        Due.answer("without the mandatory child", chain.isConfiguration(3), false);
    }

    private static void mandatoryRefused() {
        Class<IndexOutOfBoundsException> index = IndexOutOfBoundsException.class;
        Class<IllegalArgumentException> argument = IllegalArgumentException.class;
        Class<UnsupportedOperationException> none = UnsupportedOperationException.class;
        Due.refusal("setMandatory(7)", index, Models::decided, x -> x.setMandatory(7, true));
        Due.refusal("setMandatory(-1)", index, Models::decided, x -> x.setMandatory(-1, false));
        Due.refusal("setMandatory(0)", argument, Models::decided, x -> x.setMandatory(0, true));
        Due.refusal("setMandatory(0, false)", argument, Models::decided,
                x -> x.setMandatory(0, false));
        Due.refusal("mandatory, refused", none, Models::decided, x -> x.setMandatory(5, true));
        Due.refusal("mandatory, excluded", none, Models::decided, x -> x.setMandatory(3, true));
        Due.answer("a refused one is not mandatory already",
                Models.decided().setMandatory(5, false), false);
    }

    private static void group() {
        TreeConfigurator x = Models.flat(4);
        Due.answer("setGroup(0, 2, 3)", x.setGroup(0, 2, 3), 4);
        Due.answer("one child", x.isConfiguration(0b00011), false);
        Due.answer("two children", x.isConfiguration(0b00111), true);
        Due.answer("three children", x.isConfiguration(0b01111), true);
        Due.answer("four children", x.isConfiguration(0b11111), false);
        Due.answer("completions()", x.completions(), 10L);
        Due.answer("setGroup(0, 0, 0)", x.setGroup(0, 0, 0), 4);
        Due.answer("completions() of none", x.completions(), 1L);
        Due.answer("setGroup(0, 4, 4)", x.setGroup(0, 4, 4), 4);
        Due.answer("completions() of all", x.completions(), 1L);
        Due.answer("cheapest() of all", x.cheapest(), 31);
        Due.answer("setGroup(1, 1, 12)", Due.thrownBy(() -> x.setGroup(1, 1, 12)),
                "UnsupportedOperationException");
        Due.answer("setGroup(0, 0, 12)", x.setGroup(0, 0, 12), 4);
        Due.answer("a leaf that wants 12", x.setGroup(1, 12, 12), 0);
        Due.answer("a leaf that wants children is in none", x.stateOf(1), 'x');
        Due.answer("a leaf that may have some", x.setGroup(1, 0, 1), 0);
        Due.answer("completions() at last", x.completions(), 16L);
    }

    private static void groupRefused() {
        Class<IndexOutOfBoundsException> index = IndexOutOfBoundsException.class;
        Class<IllegalArgumentException> argument = IllegalArgumentException.class;
        Class<UnsupportedOperationException> none = UnsupportedOperationException.class;
        Due.refusal("setGroup(7, 0, 1)", index, Models::decided, x -> x.setGroup(7, 0, 1));
        Due.refusal("setGroup(-1, 2, 1)", index, Models::decided, x -> x.setGroup(-1, 2, 1));
        Due.refusal("setGroup(1, -1, 1)", argument, Models::decided, x -> x.setGroup(1, -1, 1));
        Due.refusal("setGroup(1, 2, 1)", argument, Models::decided, x -> x.setGroup(1, 2, 1));
        Due.refusal("setGroup(1, 0, -1)", argument, Models::decided, x -> x.setGroup(1, 0, -1));
        Due.refusal("setGroup(1, 0, 13)", argument, Models::decided, x -> x.setGroup(1, 0, 13));
        Due.refusal("setGroup(1, 13, 13)", argument, Models::decided, x -> x.setGroup(1, 13, 13));
        Due.refusal("setGroup(1, 13, 12)", argument, Models::decided, x -> x.setGroup(1, 13, 12));
        Due.refusal("too many wanted", none, Models::decided, x -> x.setGroup(1, 2, 2));
        Due.refusal("none allowed", none, Models::decided, x -> x.setGroup(2, 0, 0));
        Due.refusal("more than there are", none, Models::bicycle, x -> x.setGroup(0, 3, 3));
    }
}
