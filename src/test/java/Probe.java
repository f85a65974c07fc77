import java.util.function.Supplier;

/**
 * Tells the whole state of an object as a text, by asking and then by taking the object apart: only
 * so do layers, lifted rules, groups and the numbers to come show. It needs fewer than 250 calls.
 */
final class Probe {
    private Probe() {
    }

    static String of(TreeConfigurator x) {
        StringBuilder told = new StringBuilder();
        int features = 0;
        while (features <= 12 && knows(x, features)) {
            features++;
        }
        told.append(line(x));
        for (int feature = 0; feature < features; feature++) {
            int number = feature;
            told.append(' ').append(x.stateOf(number));
            told.append(tell(() -> x.reasonRule(number)));
        }
        told.append(' ').append(x.completions()).append(' ').append(x.cheapest());
        told.append(' ').append(x.meanPrice());
        layers(x, (1 << features) - 1, told);
        rules(x, told);
        decisions(x, features, told);
        groups(x, features, told);
        told.append(" new ").append(tell(() -> x.require(1, 0))).append(x.addPercent(0));
        return told.toString();
    }

    private static void layers(TreeConfigurator x, int all, StringBuilder told) {
        for (int layer = 0; layer < 7; layer++) {
            told.append(" price ").append(x.price(all)).append(tell(x::removeLayer));
        }
    }

    private static void rules(TreeConfigurator x, StringBuilder told) {
        for (int rule = 0; rule < 21; rule++) {
            int number = rule;
            told.append(" lift").append(tell(() -> x.lift(number)));
        }
    }

    private static void decisions(TreeConfigurator x, int features, StringBuilder told) {
        for (int feature = 0; feature < features; feature++) {
            int number = feature;
            told.append(' ').append(tell(() -> x.retract(number)));
            told.append(tell(() -> x.setMandatory(number, false)));
            told.append(x.completions());
        }
    }

    /** As many new children as there may be, as a greatest number shows only beyond itself. */
    private static void groups(TreeConfigurator x, int features, StringBuilder told) {
        for (int feature = features; feature <= 12; feature++) {
            int parent = features > 1 ? feature % 2 : 0;
            told.append(" new ").append(tell(() -> x.addFeature(parent, 1)));
            told.append(' ').append(x.completions());
        }
    }

    static String line(TreeConfigurator x) {
        StringBuilder line = new StringBuilder();
        int length = x.lineLength();
        for (int index = 0; index < length; index++) {
            line.append(x.lineAt(index));
        }
        return line.toString();
    }

    private static boolean knows(TreeConfigurator x, int feature) {
        return Due.thrownBy(() -> x.known(feature)).equals("nothing");
    }

    private static String tell(Supplier<Object> call) {
        try {
            return String.valueOf(call.get());
        } catch (RuntimeException e) {
            return e.getClass().getSimpleName();
        }
    }
}
