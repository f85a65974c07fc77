import java.util.NoSuchElementException;

/** Promises 30 to 32: fewest, toRetract and force. */
public final class WishTest {
    private static final Class<IndexOutOfBoundsException> INDEX = IndexOutOfBoundsException.class;
    private static final Class<IllegalArgumentException> ARGUMENT = IllegalArgumentException.class;
    private static final Class<NoSuchElementException> NONE = NoSuchElementException.class;

    public static void main(String[] args) {
        wishes();
        choices();
        all();
        asking();
        askingRefused();
        forcing();
        forceRefused();
        Due.end();
    }

    private static void wishes() {
        TreeConfigurator x = Models.decided();
        wish(x, 3, true, 0b1000000);
        wish(x, 3, false, 0);
        wish(x, 5, true, 0b0100000);
        wish(x, 5, false, 0);
        wish(x, 6, true, 0);
        wish(x, 6, false, 0b1000000);
        wish(x, 2, true, 0);
        wish(x, 2, false, 0b1000000);
        wish(x, 4, true, 0);
        wish(x, 4, false, 0b0100000);
        wish(x, 1, true, 0);
        wish(x, 0, true, 0);
    }

    /** Several ways: the fewest decisions first, then the lowest number. */
    private static void choices() {
        TreeConfigurator x = Models.flat(4);
        x.choose(1);
        x.choose(2);
        x.setGroup(0, 0, 2);
        wish(x, 3, true, 0b00010);
        x.exclude(4, 1);
        x.exclude(4, 2);
        wish(x, 4, true, 0b00110);
        TreeConfigurator y = Models.flat(5);
        y.refuse(1);
        y.refuse(2);
        y.refuse(3);
        y.any(1, 2, 4);
        y.require(5, 3);
        wish(y, 5, true, 0b01000);
        wish(y, 4, false, 0b00010);
        y.require(1, 3);
        wish(y, 4, false, 0b00100);
        TreeConfigurator z = Models.flat(5);
        z.refuse(1);
        z.refuse(2);
        z.refuse(3);
        z.require(5, 4);
        z.any(3, 5, 4);
        z.choose(5);
        wish(z, 4, false, 0b101000);
        wish(z, 5, false, 0b100000);
        TreeConfigurator fewBeforeLow = Models.flat(4);
        fewBeforeLow.choose(1);
        fewBeforeLow.choose(2);
        fewBeforeLow.choose(3);
        fewBeforeLow.addFeature(4, 0);
        fewBeforeLow.addFeature(4, 0);
        fewBeforeLow.setGroup(4, 1, 1);
        fewBeforeLow.exclude(5, 1);
        fewBeforeLow.exclude(5, 2);
        fewBeforeLow.exclude(6, 3);
        wish(fewBeforeLow, 4, true, 0b1000);
    }

    /** The wish holds in the set of all features alone. */
    private static void all() {
        TreeConfigurator x = Models.flat(3);
        x.require(1, 2);
        x.require(1, 3);
        x.refuse(2);
        wish(x, 1, true, 0b0100);
        TreeConfigurator y = Models.flat(11);
        y.setGroup(0, 11, 11);
        wish(y, 11, true, 0);
    }

    /** To ask changes nothing. */
    private static void asking() {
        TreeConfigurator x = Models.decided();
        x.fewest(3, true);
        x.toRetract(5, true);
        Due.answer("the state after asking", Probe.of(x), Probe.of(Models.decided()));
    }

    private static void wish(TreeConfigurator x, int feature, boolean isIn, int want) {
        String call = "(" + feature + ", " + isIn + ")";
        Due.answer("fewest" + call, x.fewest(feature, isIn), Integer.bitCount(want));
        Due.answer("toRetract" + call, x.toRetract(feature, isIn), want);
    }

    private static void askingRefused() {
        Due.refusal("fewest(-1, true)", INDEX, Models::decided, x -> x.fewest(-1, true));
        Due.refusal("fewest(7, false)", INDEX, Models::decided, x -> x.fewest(7, false));
        Due.refusal("fewest(0, false)", NONE, Models::decided, x -> x.fewest(0, false));
        Due.refusal("fewest(1, false)", NONE, Models::decided, x -> x.fewest(1, false));
        Due.refusal("toRetract(-1, true)", INDEX, Models::decided, x -> x.toRetract(-1, true));
        Due.refusal("toRetract(7, false)", INDEX, Models::decided, x -> x.toRetract(7, false));
        Due.refusal("toRetract(12, false)", INDEX, Models::full, x -> x.toRetract(12, false));
        Due.refusal("toRetract(0, false)", NONE, Models::decided, x -> x.toRetract(0, false));
        Due.refusal("toRetract(1, false)", NONE, Models::decided, x -> x.toRetract(1, false));
        Due.refusal("toRetract, excluded", NONE, WishTest::dead, x -> x.toRetract(2, true));
        Due.refusal("fewest, excluded", NONE, WishTest::dead, x -> x.fewest(2, true));
    }

    private static void forcing() {
        TreeConfigurator x = Models.decided();
        Due.answer("force(3, true)", x.force(3, true), 1);
        Due.answer("the line", Probe.line(x), "0o+ 1c+ 2? 3d+ 4? 5d- 6r-");
        Due.answer("stateOf(3)", x.stateOf(3), 'c');
        Due.answer("stateOf(6)", x.stateOf(6), 'x');
        Due.answer("force(3, true) again", x.force(3, true), 0);
        Due.answer("the line still", Probe.line(x), "0o+ 1c+ 2? 3d+ 4? 5d- 6r-");
        Due.answer("force(3, false)", x.force(3, false), 1);
        Due.answer("stateOf(3), refused", x.stateOf(3), 'r');
        Due.answer("force(4, false)", x.force(4, false), 1);
        Due.answer("the lowest set is retracted", Probe.line(x), "0o+ 1m+ 2? 3n+ 4d- 5d- 6r-");
        Due.answer("force(2, false), undecided", x.force(2, false), 0);
        Due.answer("stateOf(2)", x.stateOf(2), 'r');
        Due.answer("force(6, true)", x.force(6, true), 2);
        Due.answer("isSound()", x.isSound(), true);
        TreeConfigurator y = Models.flat(2);
        Due.answer("force(1, true), free", y.force(1, true), 0);
        Due.answer("force(2, false), free", y.force(2, false), 0);
        Due.answer("the line of both", Probe.line(y), "0o+ 1d+ 2d-");
        Due.answer("retractAll()", y.retractAll(), 2);
    }

    private static void forceRefused() {
        Due.refusal("force(-1, true)", INDEX, Models::decided, x -> x.force(-1, true));
        Due.refusal("force(7, true)", INDEX, Models::decided, x -> x.force(7, true));
        Due.refusal("force(0, true)", ARGUMENT, Models::decided, x -> x.force(0, true));
        Due.refusal("force(0, false)", ARGUMENT, Models::decided, x -> x.force(0, false));
        Due.refusal("force(1, false)", NONE, Models::decided, x -> x.force(1, false));
        Due.refusal("force(2, true), excluded", NONE, WishTest::dead, x -> x.force(2, true));
    }

    /** 2 is in no configuration, and 1 is chosen. */
    private static TreeConfigurator dead() {
        TreeConfigurator x = Models.flat(3);
        x.exclude(0, 2);
        x.choose(1);
        return x;
    }
}
