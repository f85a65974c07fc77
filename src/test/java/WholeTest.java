/** Promises 36 and 37: meanPrice and isSound. */
public final class WholeTest {
    public static void main(String[] args) {
        means();
        sound();
        Due.end();
    }

    private static void means() {
        TreeConfigurator x = Models.flat(2);
        Due.answer("meanPrice() of 0, 10, 20 and 30", x.meanPrice(), 15.0);
        x.any(0, 1, 2);
        x.exclude(1, 2);
        Due.answer("meanPrice() of 0, 10 and 20", x.meanPrice(), 10.0);
        x.addSurcharge(1, 1);
        Due.answer("meanPrice() of 0, 11 and 21", x.meanPrice(), 32.0 / 3.0);
        x.addBundle(0, 1, 99);
        Due.answer("meanPrice() of 0, -88 and 21", x.meanPrice(), -67.0 / 3.0);
        x.refuse(1);
        Due.answer("meanPrice() of 0 and 21", x.meanPrice(), 10.5);
        x.choose(2);
        Due.answer("meanPrice() of 21", x.meanPrice(), 21.0);
        Due.answer("meanPrice() of 0 alone", new TreeConfigurator().meanPrice(), 0.0);
        Due.answer("meanPrice() of 2048", Models.flat(11).meanPrice(), 330.0);
    }

    private static void sound() {
        Due.answer("a new object", new TreeConfigurator().isSound(), true);
        Due.answer("the bicycle", Models.bicycle().isSound(), true);
        Due.answer("the decided bicycle", Models.decided().isSound(), true);
        Due.answer("the full one", Models.full().isSound(), true);
        Due.answer("the chain", Models.chain(12).isSound(), true);
        TreeConfigurator x = Models.full();
        x.complete();
        Due.answer("a complete one", x.isSound(), true);
        x.force(5, true);
        Due.answer("a forced one", x.isSound(), true);
        TreeConfigurator asked = Models.decided();
        asked.isSound();
        Due.answer("the state after isSound()", Probe.of(asked), Probe.of(Models.decided()));
    }
}
