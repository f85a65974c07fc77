import java.util.ArrayList;
import java.util.List;
import java.util.NoSuchElementException;

/**
 * The document once more, written down word by word and without regard to speed: what the class
 * answers is compared with it. It shares no thought with the class: sets are looked at feature by
 * feature, and the fewest decisions are found by trying all sets of decisions.
 */
public final class Oracle {
    private record Rule(char kind, int first, int second, int third) {
    }

    private record Layer(char kind, int first, int second, int amount) {
    }

    private final List<Integer> parent = new ArrayList<>(List.of(-1));
    private final List<Integer> price = new ArrayList<>(List.of(0));
    private final List<Boolean> mandatory = new ArrayList<>(List.of(false));
    private final List<Integer> least = new ArrayList<>(List.of(0));
    private final List<Integer> greatest = new ArrayList<>(List.of(12));
    private final List<Character> decision = new ArrayList<>(List.of('-'));
    private final List<Rule> rules = new ArrayList<>();
    private final List<Boolean> lifted = new ArrayList<>();
    private final List<Layer> layers = new ArrayList<>();
    private List<Integer> configurations;

    private char[] knowledge;
    private char[] reasons;
    private int[] reasonRules;

    private void needFeature(int feature) {
        if (feature < 0 || feature >= parent.size()) {
            throw new IndexOutOfBoundsException();
        }
    }

    private static void need(boolean holds) {
        if (!holds) {
            throw new IllegalArgumentException();
        }
    }

    private static void needState(boolean holds) {
        if (!holds) {
            throw new IllegalStateException();
        }
    }

    private static boolean in(int set, int feature) {
        return set / (1 << feature) % 2 == 1;
    }

    public int addFeature(int under, int amount) {
        needFeature(under);
        need(amount >= 0 && amount <= 999);
        needState(parent.size() < 12);
        parent.add(under);
        price.add(amount);
        mandatory.add(false);
        least.add(0);
        greatest.add(12);
        decision.add('-');
        configurations = null;
        return parent.size() - 1;
    }

    public boolean setMandatory(int feature, boolean isMandatory) {
        needFeature(feature);
        need(feature != 0);
        boolean before = mandatory.set(feature, isMandatory);
        configurations = null;
        if (completionList().isEmpty()) {
            mandatory.set(feature, before);
            configurations = null;
            throw new UnsupportedOperationException();
        }
        return before;
    }

    public int setGroup(int feature, int fewest, int most) {
        needFeature(feature);
        need(fewest >= 0 && most >= fewest && most <= 12);
        int leastBefore = least.set(feature, fewest);
        int greatestBefore = greatest.set(feature, most);
        configurations = null;
        if (completionList().isEmpty()) {
            least.set(feature, leastBefore);
            greatest.set(feature, greatestBefore);
            configurations = null;
            throw new UnsupportedOperationException();
        }
        return (int) parent.stream().filter(p -> p == feature).count();
    }

    private int addRule(Rule rule) {
        needState(rules.size() < 20);
        rules.add(rule);
        lifted.add(false);
        configurations = null;
        if (completionList().isEmpty()) {
            rules.remove(rules.size() - 1);
            lifted.remove(lifted.size() - 1);
            configurations = null;
            throw new UnsupportedOperationException();
        }
        return rules.size() - 1;
    }

    public int require(int first, int second) {
        needFeature(first);
        needFeature(second);
        need(first != second);
        return addRule(new Rule('r', first, second, -1));
    }

    public int exclude(int first, int second) {
        needFeature(first);
        needFeature(second);
        need(first != second);
        return addRule(new Rule('e', first, second, -1));
    }

    public int any(int first, int second, int third) {
        needFeature(first);
        needFeature(second);
        needFeature(third);
        need(first != second && first != third && second != third);
        return addRule(new Rule('a', first, second, third));
    }

    public int lift(int rule) {
        if (rule < 0 || rule >= rules.size()) {
            throw new NoSuchElementException();
        }
        needState(!lifted.get(rule));
        lifted.set(rule, true);
        configurations = null;
        return (int) lifted.stream().filter(l -> !l).count();
    }

    private boolean holds(Rule rule, int set) {
        return switch (rule.kind) {
            case 'r' -> !in(set, rule.first) || in(set, rule.second);
            case 'e' -> !(in(set, rule.first) && in(set, rule.second));
            default -> in(set, rule.first) || in(set, rule.second) || in(set, rule.third);
        };
    }

    private boolean isOne(int set) {
        if (!in(set, 0)) {
            return false;
        }
        for (int feature = 0; feature < parent.size(); feature++) {
            if (!in(set, feature)) {
                continue;
            }
            if (feature != 0 && !in(set, parent.get(feature))) {
                return false;
            }
            int children = 0;
            for (int child = 1; child < parent.size(); child++) {
                if (parent.get(child) == feature) {
                    if (in(set, child)) {
                        children++;
                    } else if (mandatory.get(child)) {
                        return false;
                    }
                }
            }
            if (children < least.get(feature) || children > greatest.get(feature)) {
                return false;
            }
        }
        for (int rule = 0; rule < rules.size(); rule++) {
            if (!lifted.get(rule) && !holds(rules.get(rule), set)) {
                return false;
            }
        }
        return true;
    }

    private List<Integer> configurationList() {
        if (configurations == null) {
            configurations = new ArrayList<>();
            for (int set = 0; set < 1 << parent.size(); set++) {
                if (isOne(set)) {
                    configurations.add(set);
                }
            }
        }
        return configurations;
    }

    private boolean agrees(int set, int retracted) {
        for (int feature = 1; feature < parent.size(); feature++) {
            if (in(retracted, feature)) {
                continue;
            }
            if (decision.get(feature) == 'c' && !in(set, feature)
                    || decision.get(feature) == 'r' && in(set, feature)) {
                return false;
            }
        }
        return true;
    }

    private List<Integer> completionList() {
        List<Integer> completions = new ArrayList<>();
        for (int set : configurationList()) {
            if (agrees(set, 0)) {
                completions.add(set);
            }
        }
        return completions;
    }

    private int decide(int feature, char how) {
        needFeature(feature);
        need(feature != 0);
        needState(decision.get(feature) == '-');
        decision.set(feature, how);
        if (completionList().isEmpty()) {
            decision.set(feature, '-');
            throw new UnsupportedOperationException();
        }
        return unknown();
    }

    public int choose(int feature) {
        return decide(feature, 'c');
    }

    public int refuse(int feature) {
        return decide(feature, 'r');
    }

    public char retract(int feature) {
        needFeature(feature);
        needState(decision.get(feature) != '-');
        return decision.set(feature, '-');
    }

    public int retractAll() {
        int retracted = 0;
        for (int feature = 0; feature < decision.size(); feature++) {
            if (decision.set(feature, '-') != '-') {
                retracted++;
            }
        }
        return retracted;
    }

    public char stateOf(int feature) {
        needFeature(feature);
        if (decision.get(feature) != '-') {
            return decision.get(feature);
        }
        long with = completionList().stream().filter(set -> in(set, feature)).count();
        return with == 0 ? 'x' : with == completionList().size() ? 'a' : 'o';
    }

    public char stateByAll(int feature) {
        return stateOf(feature);
    }

    private int childrenThat(int feature, String signs) {
        int number = 0;
        for (int child = 1; child < parent.size(); child++) {
            if (parent.get(child) == feature && signs.indexOf(knowledge[child]) >= 0) {
                number++;
            }
        }
        return number;
    }

    private void deduce() {
        int features = parent.size();
        knowledge = new char[features];
        reasons = new char[features];
        reasonRules = new int[features];
        for (int feature = 0; feature < features; feature++) {
            char decided = decision.get(feature);
            knowledge[feature] = feature == 0 || decided == 'c' ? 'i' : decided == 'r' ? 'n' : 'u';
            reasons[feature] = feature == 0 ? 'o' : 'd';
        }
        boolean more = true;
        while (more) {
            more = false;
            for (int feature = 1; feature < features && !more; feature++) {
                more = knowledge[feature] == 'u' && apply(feature);
            }
        }
    }

    private boolean become(int feature, char what, char letter) {
        knowledge[feature] = what;
        reasons[feature] = letter;
        return true;
    }

    private boolean apply(int feature) {
        int above = parent.get(feature);
        if (childrenThat(feature, "i") > 0) {
            return become(feature, 'i', 'c');
        }
        if (knowledge[above] == 'n') {
            return become(feature, 'n', 'p');
        }
        if (mandatory.get(feature) && knowledge[above] == 'i') {
            return become(feature, 'i', 'm');
        }
        for (int child = 1; child < parent.size(); child++) {
            if (parent.get(child) == feature && mandatory.get(child) && knowledge[child] == 'n') {
                return become(feature, 'n', 'k');
            }
        }
        if (knowledge[above] == 'i' && childrenThat(above, "i") == greatest.get(above)) {
            return become(feature, 'n', 'f');
        }
        if (knowledge[above] == 'i' && childrenThat(above, "iu") == least.get(above)) {
            return become(feature, 'i', 'n');
        }
        if (childrenThat(feature, "iu") < least.get(feature)
                || childrenThat(feature, "i") > greatest.get(feature)) {
            return become(feature, 'n', 'g');
        }
        return applyRules(feature);
    }

    private boolean applyRules(int feature) {
        for (int rule = 0; rule < rules.size(); rule++) {
            char what = lifted.get(rule) ? 'u' : told(rules.get(rule), feature);
            if (what != 'u') {
                reasonRules[feature] = rule;
                return become(feature, what, 'r');
            }
        }
        return false;
    }

    private char told(Rule rule, int feature) {
        if (rule.kind == 'r') {
            if (feature == rule.second && knowledge[rule.first] == 'i') {
                return 'i';
            }
            return feature == rule.first && knowledge[rule.second] == 'n' ? 'n' : 'u';
        }
        if (rule.kind == 'e') {
            boolean isFirst = feature == rule.first && knowledge[rule.second] == 'i';
            boolean isSecond = feature == rule.second && knowledge[rule.first] == 'i';
            return isFirst || isSecond ? 'n' : 'u';
        }
        int out = 0;
        boolean isInRule = false;
        for (int one : new int[] {rule.first, rule.second, rule.third}) {
            isInRule |= one == feature;
            out += knowledge[one] == 'n' ? 1 : 0;
        }
        return isInRule && out == 2 ? 'i' : 'u';
    }

    public char known(int feature) {
        needFeature(feature);
        deduce();
        return knowledge[feature];
    }

    public char reasonOf(int feature) {
        if (known(feature) == 'u') {
            throw new NoSuchElementException();
        }
        return reasons[feature];
    }

    public int reasonRule(int feature) {
        if (reasonOf(feature) != 'r') {
            throw new NoSuchElementException();
        }
        return reasonRules[feature];
    }

    public int unknown() {
        deduce();
        return (int) new String(knowledge).chars().filter(sign -> sign == 'u').count();
    }

    public boolean isConfiguration(int set) {
        need(set >= 0 && set < 1 << parent.size());
        return isOne(set);
    }

    public long completions() {
        return completionList().size();
    }

    public long completionsByAll() {
        return completions();
    }

    private int addLayer(Layer layer) {
        needState(layers.size() < 6);
        layers.add(layer);
        return layers.size() + 1;
    }

    public int addBundle(int first, int second, int discount) {
        needFeature(first);
        needFeature(second);
        need(discount >= 0 && discount <= 999);
        return addLayer(new Layer('b', first, second, discount));
    }

    public int addPercent(int percent) {
        need(percent >= 0 && percent <= 100);
        return addLayer(new Layer('p', 0, 0, percent));
    }

    public int addSurcharge(int number, int amount) {
        need(number >= 0 && number <= 12);
        need(amount >= 0 && amount <= 999);
        return addLayer(new Layer('s', number, 0, amount));
    }

    public int removeLayer() {
        needState(!layers.isEmpty());
        layers.remove(layers.size() - 1);
        return layers.size() + 1;
    }

    private int priceAt(int layer, int set) {
        int size = 0;
        int sum = 0;
        for (int feature = 0; feature < parent.size(); feature++) {
            if (in(set, feature)) {
                size++;
                sum += price.get(feature);
            }
        }
        if (layer == 0) {
            return sum;
        }
        Layer top = layers.get(layer - 1);
        int below = priceAt(layer - 1, set);
        return switch (top.kind) {
            case 'b' -> in(set, top.first) && in(set, top.second) ? below - top.amount : below;
            case 'p' -> below - below * top.amount / 100;
            default -> size > top.first ? below + (size - top.first) * top.amount : below;
        };
    }

    public int price(int set) {
        need(set >= 0 && set < 1 << parent.size());
        return priceAt(layers.size(), set);
    }

    public int cheapest() {
        return completionList().stream()
                .min((one, other) -> {
                    int byPrice = Integer.compare(price(one), price(other));
                    int bySize = Integer.compare(Integer.bitCount(one), Integer.bitCount(other));
                    return byPrice != 0 ? byPrice : bySize != 0 ? bySize : Integer.compare(one, other);
                })
                .orElseThrow();
    }

    public int cheapestByAll() {
        return cheapest();
    }

    public int complete() {
        int best = cheapest();
        for (int feature = 1; feature < parent.size(); feature++) {
            if (decision.get(feature) == '-') {
                decision.set(feature, in(best, feature) ? 'c' : 'r');
            }
        }
        return price(best);
    }

    public int fewest(int feature, boolean isIn) {
        return Integer.bitCount(toRetract(feature, isIn));
    }

    public int toRetract(int feature, boolean isIn) {
        needFeature(feature);
        List<Integer> wished = new ArrayList<>();
        for (int set : configurationList()) {
            if (in(set, feature) == isIn) {
                wished.add(set);
            }
        }
        if (wished.isEmpty()) {
            throw new NoSuchElementException();
        }
        for (int size = 0; size <= 11; size++) {
            for (int set = 0; set < 1 << parent.size(); set++) {
                int retracted = set;
                if (Integer.bitCount(set) == size && areDecided(set)
                        && wished.stream().anyMatch(one -> agrees(one, retracted))) {
                    return set;
                }
            }
        }
        throw new AssertionError("all decisions are enough");
    }

    private boolean areDecided(int set) {
        for (int feature = 0; feature < parent.size(); feature++) {
            if (in(set, feature) && decision.get(feature) == '-') {
                return false;
            }
        }
        return true;
    }

    public int force(int feature, boolean isIn) {
        needFeature(feature);
        need(feature != 0);
        int retracted = toRetract(feature, isIn);
        for (int other = 0; other < parent.size(); other++) {
            if (in(retracted, other)) {
                decision.set(other, '-');
            }
        }
        decision.set(feature, isIn ? 'c' : 'r');
        return Integer.bitCount(retracted);
    }

    private String line() {
        deduce();
        List<String> parts = new ArrayList<>();
        for (int feature = 0; feature < parent.size(); feature++) {
            char known = knowledge[feature];
            parts.add(feature + (known == 'u' ? "?" : reasons[feature] + (known == 'i' ? "+" : "-")));
        }
        return String.join(" ", parts);
    }

    public int lineLength() {
        return line().length();
    }

    public char lineAt(int index) {
        if (index < 0 || index >= line().length()) {
            throw new IndexOutOfBoundsException();
        }
        return line().charAt(index);
    }

    public float knownShare() {
        return (float) (parent.size() - unknown()) / (float) parent.size();
    }

    public double meanPrice() {
        long sum = completionList().stream().mapToLong(this::price).sum();
        return (double) sum / (double) completions();
    }

    public boolean isSound() {
        return true;
    }
}
