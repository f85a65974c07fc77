import java.util.NoSuchElementException;

/**
 * A product configurator: a tree of features with groups and rules, decisions with the deductions
 * that follow from them, and prices in layers.
 *
 * <p>Every set of features is held as a mask, as the document tells sets, so that no call has to
 * make an object: all rows are made with the configurator and used again.
 */
public final class TreeConfigurator {

    private static final int MOST_FEATURES = 12;
    private static final int MOST_RULES = 20;
    private static final int MOST_ADDED_LAYERS = 6;
    private static final int MOST_PRICE = 999;
    private static final int MOST_PERCENT = 100;
    private static final int ROOT = 0;
    private static final int ROOT_ALONE = 1;
    private static final int NONE = -1;

    private final Tree tree = new Tree();
    private final Rules rules = new Rules();
    private final Prices prices = new Prices();
    private final Deduction deduction = new Deduction();
    private final Line line = new Line();
    private int chosen;
    private int refused;

    public TreeConfigurator() {
    }

    // The model

    public int addFeature(int parent, int price)
            throws IndexOutOfBoundsException, IllegalArgumentException, IllegalStateException {
        checkFeature(parent);
        if (price < 0 || price > MOST_PRICE) {
            throw new IllegalArgumentException("the price is out of range");
        }
        if (tree.count >= MOST_FEATURES) {
            throw new IllegalStateException("there are 12 features");
        }
        int feature = tree.grow(parent);
        prices.setFirst(feature, price);
        return feature;
    }

    public boolean setMandatory(int feature, boolean isMandatory)
            throws IndexOutOfBoundsException, IllegalArgumentException, UnsupportedOperationException {
        checkFeature(feature);
        checkNotRoot(feature);
        int before = tree.mandatory;
        int bit = 1 << feature;
        tree.mandatory = isMandatory ? before | bit : before & ~bit;
        if (!hasCompletion()) {
            tree.mandatory = before;
            throw new UnsupportedOperationException("there would be no completion");
        }
        return has(before, feature);
    }

    public int setGroup(int feature, int least, int greatest)
            throws IndexOutOfBoundsException, IllegalArgumentException, UnsupportedOperationException {
        checkFeature(feature);
        if (least < 0 || greatest < least || greatest > MOST_FEATURES) {
            throw new IllegalArgumentException("a number is out of range");
        }
        int leastBefore = tree.least[feature];
        int greatestBefore = tree.greatest[feature];
        tree.least[feature] = least;
        tree.greatest[feature] = greatest;
        if (!hasCompletion()) {
            tree.least[feature] = leastBefore;
            tree.greatest[feature] = greatestBefore;
            throw new UnsupportedOperationException("there would be no completion");
        }
        return Integer.bitCount(tree.children[feature]);
    }

    public int require(int first, int second)
            throws IndexOutOfBoundsException, IllegalArgumentException, IllegalStateException,
            UnsupportedOperationException {
        checkFeature(first);
        checkFeature(second);
        checkDifferent(first, second);
        return addRule(1 << second, 1 << first, Math.max(first, second));
    }

    public int exclude(int first, int second)
            throws IndexOutOfBoundsException, IllegalArgumentException, IllegalStateException,
            UnsupportedOperationException {
        checkFeature(first);
        checkFeature(second);
        checkDifferent(first, second);
        return addRule(0, 1 << first | 1 << second, Math.max(first, second));
    }

    public int any(int first, int second, int third)
            throws IndexOutOfBoundsException, IllegalArgumentException, IllegalStateException,
            UnsupportedOperationException {
        checkFeature(first);
        checkFeature(second);
        checkFeature(third);
        checkDifferent(first, second);
        checkDifferent(first, third);
        checkDifferent(second, third);
        int wanted = 1 << first | 1 << second | 1 << third;
        return addRule(wanted, 0, Math.max(first, Math.max(second, third)));
    }

    public int lift(int rule) throws NoSuchElementException, IllegalStateException {
        if (rule < 0 || rule >= rules.count) {
            throw new NoSuchElementException("there is no such rule");
        }
        if (!has(rules.inForce, rule)) {
            throw new IllegalStateException("the rule is lifted already");
        }
        rules.inForce &= ~(1 << rule);
        return Integer.bitCount(rules.inForce);
    }

    // Decisions

    public int choose(int feature)
            throws IndexOutOfBoundsException, IllegalArgumentException, IllegalStateException,
            UnsupportedOperationException {
        checkDecidable(feature);
        int bit = 1 << feature;
        if (!Search.reaches(tree, rules, ROOT, 0, chosen | bit, refused)) {
            throw new UnsupportedOperationException("there would be no completion");
        }
        chosen |= bit;
        return countUnknown();
    }

    public int refuse(int feature)
            throws IndexOutOfBoundsException, IllegalArgumentException, IllegalStateException,
            UnsupportedOperationException {
        checkDecidable(feature);
        int bit = 1 << feature;
        if (!Search.reaches(tree, rules, ROOT, 0, chosen, refused | bit)) {
            throw new UnsupportedOperationException("there would be no completion");
        }
        refused |= bit;
        return countUnknown();
    }

    public char retract(int feature) throws IndexOutOfBoundsException, IllegalStateException {
        checkFeature(feature);
        if (!has(chosen | refused, feature)) {
            throw new IllegalStateException("the feature is not decided");
        }
        char decision = has(chosen, feature) ? 'c' : 'r';
        takeBack(1 << feature);
        return decision;
    }

    public int retractAll() {
        int decided = chosen | refused;
        takeBack(decided);
        return Integer.bitCount(decided);
    }

    // States and deductions

    public char stateOf(int feature) throws IndexOutOfBoundsException {
        checkFeature(feature);
        int bit = 1 << feature;
        boolean canBeIn = Search.reaches(tree, rules, ROOT, 0, chosen | bit, refused);
        boolean canBeOut = Search.reaches(tree, rules, ROOT, 0, chosen, refused | bit);
        return stateLetter(feature, canBeIn, canBeOut);
    }

    public char stateByAll(int feature) throws IndexOutOfBoundsException {
        checkFeature(feature);
        boolean canBeIn = has(featuresInSome(), feature);
        boolean canBeOut = !has(featuresInAll(), feature);
        return stateLetter(feature, canBeIn, canBeOut);
    }

    public char known(int feature) throws IndexOutOfBoundsException {
        checkFeature(feature);
        deduce();
        if (has(deduction.in, feature)) {
            return 'i';
        }
        return has(deduction.out, feature) ? 'n' : 'u';
    }

    public char reasonOf(int feature) throws IndexOutOfBoundsException, NoSuchElementException {
        checkFeature(feature);
        deduce();
        if (!deduction.knows(feature)) {
            throw new NoSuchElementException("the feature is unknown");
        }
        return deduction.reasons[feature];
    }

    public int reasonRule(int feature) throws IndexOutOfBoundsException, NoSuchElementException {
        checkFeature(feature);
        deduce();
        if (!deduction.knows(feature) || deduction.reasons[feature] != 'r') {
            throw new NoSuchElementException("the feature did not become known by a rule");
        }
        return deduction.reasonRules[feature];
    }

    public int unknown() {
        return countUnknown();
    }

    // Configurations and completions

    public boolean isConfiguration(int set) throws IllegalArgumentException {
        checkSet(set);
        return isAllowed(set);
    }

    public long completions() {
        return Search.countFrom(tree, rules, ROOT, 0, chosen, refused);
    }

    public long completionsByAll() {
        long number = 0;
        int all = tree.allFeatures();
        for (int set = 0; set <= all; set++) {
            if (isCompletion(set)) {
                number++;
            }
        }
        return number;
    }

    // Prices

    public int addBundle(int first, int second, int discount)
            throws IndexOutOfBoundsException, IllegalArgumentException, IllegalStateException {
        checkFeature(first);
        checkFeature(second);
        if (discount < 0 || discount > MOST_PRICE) {
            throw new IllegalArgumentException("the discount is out of range");
        }
        return addLayer(Prices.BUNDLE, 1 << first | 1 << second, discount);
    }

    public int addPercent(int percent) throws IllegalArgumentException, IllegalStateException {
        if (percent < 0 || percent > MOST_PERCENT) {
            throw new IllegalArgumentException("the percentage is out of range");
        }
        return addLayer(Prices.PERCENT, 0, percent);
    }

    public int addSurcharge(int number, int amount)
            throws IllegalArgumentException, IllegalStateException {
        if (number < 0 || number > MOST_FEATURES || amount < 0 || amount > MOST_PRICE) {
            throw new IllegalArgumentException("the number or the amount is out of range");
        }
        return addLayer(Prices.SURCHARGE, number, amount);
    }

    public int removeLayer() throws IllegalStateException {
        if (prices.added <= 0) {
            throw new IllegalStateException("no layer was added");
        }
        prices.added--;
        return prices.added + 1;
    }

    public int price(int set) throws IllegalArgumentException {
        checkSet(set);
        return prices.ofSet(set);
    }

    public int cheapest() {
        return Search.cheapestFrom(tree, rules, prices, ROOT, 0, chosen, refused);
    }

    public int cheapestByAll() {
        int best = NONE;
        int all = tree.allFeatures();
        for (int set = 0; set <= all; set++) {
            if (isCompletion(set)) {
                best = prices.cheaperOf(best, set);
            }
        }
        return best;
    }

    public int complete() {
        int best = cheapest();
        int undecided = tree.allFeatures() & ~(ROOT_ALONE | chosen | refused);
        chosen |= undecided & best;
        refused |= undecided & ~best;
        return prices.ofSet(best);
    }

    // Wishes

    public int fewest(int feature, boolean isIn)
            throws IndexOutOfBoundsException, NoSuchElementException {
        checkFeature(feature);
        return Integer.bitCount(decisionsAgainst(feature, isIn));
    }

    public int toRetract(int feature, boolean isIn)
            throws IndexOutOfBoundsException, NoSuchElementException {
        checkFeature(feature);
        return decisionsAgainst(feature, isIn);
    }

    public int force(int feature, boolean isIn)
            throws IndexOutOfBoundsException, IllegalArgumentException, NoSuchElementException {
        checkFeature(feature);
        checkNotRoot(feature);
        int against = decisionsAgainst(feature, isIn);
        takeBack(against);
        if (isIn) {
            chosen |= 1 << feature;
        } else {
            refused |= 1 << feature;
        }
        return Integer.bitCount(against);
    }

    // The line, the shares, and the check of the whole

    public int lineLength() {
        writeLine();
        return line.length;
    }

    public char lineAt(int index) throws IndexOutOfBoundsException {
        writeLine();
        if (index < 0 || index >= line.length) {
            throw new IndexOutOfBoundsException("there is no such character");
        }
        return line.signs[index];
    }

    public float knownShare() {
        int all = tree.count;
        int known = all - countUnknown();
        // There is always the root; the test keeps NaN away even so.
        return all > 0 ? (float) known / (float) all : 0.0f;
    }

    public double meanPrice() {
        long sum = 0;
        long number = 0;
        int all = tree.allFeatures();
        for (int set = 0; set <= all; set++) {
            if (isCompletion(set)) {
                sum += prices.ofSet(set);
                number++;
            }
        }
        // There is always a completion; the test keeps NaN away even so.
        return number > 0 ? (double) sum / (double) number : 0.0;
    }

    public boolean isSound() {
        long number = completions();
        int inAll = featuresInAll();
        int inSome = featuresInSome();
        return number > 0 && number == completionsByAll() && cheapest() == cheapestByAll()
                && statesAgree(inAll, inSome) && knowledgeAgrees(inAll, inSome);
    }

    // What several calls need

    private void checkFeature(int feature) {
        if (feature < 0 || feature >= tree.count) {
            throw new IndexOutOfBoundsException("there is no such feature");
        }
    }

    private void checkNotRoot(int feature) {
        if (feature == ROOT) {
            throw new IllegalArgumentException("it is the root");
        }
    }

    private void checkDifferent(int first, int second) {
        if (first == second) {
            throw new IllegalArgumentException("two features are the same");
        }
    }

    private void checkDecidable(int feature) {
        checkFeature(feature);
        checkNotRoot(feature);
        if (has(chosen | refused, feature)) {
            throw new IllegalStateException("the feature is decided");
        }
    }

    private void checkSet(int set) {
        if (set < 0 || set > tree.allFeatures()) {
            throw new IllegalArgumentException("there is no such set of features");
        }
    }

    private static boolean has(int set, int number) {
        return (set >> number & 1) != 0;
    }

    private char stateLetter(int feature, boolean canBeIn, boolean canBeOut) {
        if (has(chosen | refused, feature)) {
            return has(chosen, feature) ? 'c' : 'r';
        }
        if (canBeIn) {
            return canBeOut ? 'o' : 'a';
        }
        return 'x';
    }

    private boolean hasCompletion() {
        return Search.reaches(tree, rules, ROOT, 0, chosen, refused);
    }

    private boolean isAllowed(int set) {
        return tree.allows(set) && rules.holdFor(set);
    }

    private boolean isCompletion(int set) {
        return (chosen & ~set) == 0 && (refused & set) == 0 && isAllowed(set);
    }

    private int featuresInAll() {
        int all = tree.allFeatures();
        int inAll = all;
        for (int set = 0; set <= all; set++) {
            if (isCompletion(set)) {
                inAll &= set;
            }
        }
        return inAll;
    }

    private int featuresInSome() {
        int inSome = 0;
        int all = tree.allFeatures();
        for (int set = 0; set <= all; set++) {
            if (isCompletion(set)) {
                inSome |= set;
            }
        }
        return inSome;
    }

    private int addRule(int wanted, int unwanted, int last) {
        if (rules.count >= MOST_RULES) {
            throw new IllegalStateException("there are 20 rules");
        }
        int rule = rules.append(wanted, unwanted, last);
        if (!hasCompletion()) {
            rules.dropLast();
            throw new UnsupportedOperationException("there would be no completion");
        }
        return rule;
    }

    private int addLayer(int kind, int detail, int amount) {
        if (prices.added >= MOST_ADDED_LAYERS) {
            throw new IllegalStateException("6 layers were added");
        }
        prices.append(kind, detail, amount);
        return prices.added + 1;
    }

    private void takeBack(int decisions) {
        chosen &= ~decisions;
        refused &= ~decisions;
    }

    private void deduce() {
        deduction.run(tree, rules, chosen, refused);
    }

    private int countUnknown() {
        deduce();
        return tree.count - Integer.bitCount(deduction.in | deduction.out);
    }

    private void writeLine() {
        deduce();
        line.write(tree.count, deduction);
    }

    /**
     * A set of decisions frees the way to a configuration if it has all decisions that speak
     * against that one; so the fewest are those that speak against one of the configurations.
     */
    private int decisionsAgainst(int feature, boolean isIn) {
        int best = NONE;
        int all = tree.allFeatures();
        for (int set = 0; set <= all; set++) {
            if (has(set, feature) == isIn && isAllowed(set)) {
                best = smallerOf(best, chosen & ~set | refused & set);
            }
        }
        if (best == NONE) {
            throw new NoSuchElementException("there is no such configuration at all");
        }
        return best;
    }

    private static int smallerOf(int best, int other) {
        if (best == NONE) {
            return other;
        }
        int more = Integer.bitCount(other) - Integer.bitCount(best);
        return more < 0 || more == 0 && other < best ? other : best;
    }

    private boolean statesAgree(int inAll, int inSome) {
        for (int feature = 0; feature < tree.count; feature++) {
            boolean canBeIn = has(inSome, feature);
            boolean canBeOut = !has(inAll, feature);
            if (stateOf(feature) != stateLetter(feature, canBeIn, canBeOut)) {
                return false;
            }
        }
        return true;
    }

    private boolean knowledgeAgrees(int inAll, int inSome) {
        deduce();
        return (deduction.in & ~inAll) == 0 && (deduction.out & inSome) == 0;
    }

    /** The features with their parents and groups; the prices stand elsewhere. */
    private static final class Tree {
        private final int[] parents = new int[MOST_FEATURES];
        private final int[] children = new int[MOST_FEATURES];
        private final int[] least = new int[MOST_FEATURES];
        private final int[] greatest = new int[MOST_FEATURES];
        private int mandatory;
        private int count;

        private Tree() {
            parents[ROOT] = NONE;
            greatest[ROOT] = MOST_FEATURES;
            count = 1;
        }

        private int grow(int parent) {
            int feature = count;
            parents[feature] = parent;
            children[parent] |= 1 << feature;
            greatest[feature] = MOST_FEATURES;
            count++;
            return feature;
        }

        private int allFeatures() {
            return (1 << count) - 1;
        }

        private boolean allows(int set) {
            if (!has(set, ROOT)) {
                return false;
            }
            for (int feature = 0; feature < count; feature++) {
                if (has(set, feature) && !allowsAt(feature, set)) {
                    return false;
                }
            }
            return true;
        }

        private boolean allowsAt(int feature, int set) {
            int parent = parents[feature];
            if (parent >= 0 && !has(set, parent)) {
                return false;
            }
            int below = children[feature];
            int number = Integer.bitCount(below & set);
            return (below & mandatory & ~set) == 0
                    && number >= least[feature] && number <= greatest[feature];
        }

        /** Whether a feature may be in, when all lower-numbered ones are settled in the set. */
        private boolean mayBeIn(int feature, int set) {
            if (Integer.bitCount(children[feature]) < least[feature]) {
                return false;
            }
            int parent = parents[feature];
            return parent < 0 || has(set, parent)
                    && Integer.bitCount(children[parent] & set) < greatest[parent];
        }

        /** Whether a feature may be out, when all lower-numbered ones are settled in the set. */
        private boolean mayBeOut(int feature, int set) {
            int parent = parents[feature];
            if (parent < 0) {
                return false;
            }
            if (!has(set, parent)) {
                return true;
            }
            int in = Integer.bitCount(children[parent] & set);
            int toCome = Integer.bitCount(children[parent] >> (feature + 1));
            return !has(mandatory, feature) && in + toCome >= least[parent];
        }
    }

    /**
     * The rules, each in one form for all kinds: it holds for a set if one of its wanted features
     * is in the set or one of its unwanted ones is not.
     */
    private static final class Rules {
        private final int[] wanted = new int[MOST_RULES];
        private final int[] unwanted = new int[MOST_RULES];
        private final int[] last = new int[MOST_RULES];
        private int inForce;
        private int count;

        private int append(int wantedSet, int unwantedSet, int lastFeature) {
            int rule = count;
            wanted[rule] = wantedSet;
            unwanted[rule] = unwantedSet;
            last[rule] = lastFeature;
            inForce |= 1 << rule;
            count++;
            return rule;
        }

        private void dropLast() {
            count--;
            inForce &= ~(1 << count);
        }

        private boolean holdFor(int set) {
            for (int rule = 0; rule < count; rule++) {
                if (has(inForce, rule) && !holdsFor(rule, set)) {
                    return false;
                }
            }
            return true;
        }

        /** Looks only at rules that the settling of this feature settles. */
        private boolean holdAt(int feature, int set) {
            for (int rule = 0; rule < count; rule++) {
                if (last[rule] == feature && has(inForce, rule) && !holdsFor(rule, set)) {
                    return false;
                }
            }
            return true;
        }

        private boolean holdsFor(int rule, int set) {
            return (wanted[rule] & set | unwanted[rule] & ~set) != 0;
        }

        /** The lowest rule that the feature alone still keeps from being broken, or NONE. */
        private int lastKeptBy(int feature, int in, int out) {
            int bit = 1 << feature;
            for (int rule = 0; rule < count; rule++) {
                int open = wanted[rule] & ~out | unwanted[rule] & ~in;
                if (open == bit && has(inForce, rule)) {
                    return rule;
                }
            }
            return NONE;
        }
    }

    /** The completions, found by settling one feature after the other, parents before children. */
    private static final class Search {

        private static boolean reaches(Tree tree, Rules rules, int feature, int set, int in, int out) {
            if (feature >= tree.count) {
                return true;
            }
            int with = set | 1 << feature;
            return canLeave(tree, rules, feature, set, in)
                    && reaches(tree, rules, feature + 1, set, in, out)
                    || canTake(tree, rules, feature, set, out)
                    && reaches(tree, rules, feature + 1, with, in, out);
        }

        private static long countFrom(Tree tree, Rules rules, int feature, int set, int in, int out) {
            if (feature >= tree.count) {
                return 1;
            }
            long number = 0;
            if (canLeave(tree, rules, feature, set, in)) {
                number += countFrom(tree, rules, feature + 1, set, in, out);
            }
            if (canTake(tree, rules, feature, set, out)) {
                number += countFrom(tree, rules, feature + 1, set | 1 << feature, in, out);
            }
            return number;
        }

        private static int cheapestFrom(
                Tree tree, Rules rules, Prices prices, int feature, int set, int in, int out) {
            if (feature >= tree.count) {
                return set;
            }
            int best = NONE;
            if (canLeave(tree, rules, feature, set, in)) {
                best = cheapestFrom(tree, rules, prices, feature + 1, set, in, out);
            }
            if (canTake(tree, rules, feature, set, out)) {
                int with = set | 1 << feature;
                best = prices.cheaperOf(
                        best, cheapestFrom(tree, rules, prices, feature + 1, with, in, out));
            }
            return best;
        }

        private static boolean canTake(Tree tree, Rules rules, int feature, int set, int out) {
            return !has(out, feature) && tree.mayBeIn(feature, set)
                    && rules.holdAt(feature, set | 1 << feature);
        }

        private static boolean canLeave(Tree tree, Rules rules, int feature, int set, int in) {
            return !has(in, feature) && tree.mayBeOut(feature, set) && rules.holdAt(feature, set);
        }
    }

    /** What is known of the features, and why, as of the last run. */
    private static final class Deduction {
        private static final char NO_LETTER = ' ';

        private final char[] reasons = new char[MOST_FEATURES];
        private final int[] reasonRules = new int[MOST_FEATURES];
        private int in;
        private int out;

        private void run(Tree tree, Rules rules, int chosen, int refused) {
            in = ROOT_ALONE | chosen;
            out = refused;
            for (int feature = 0; feature < tree.count; feature++) {
                reasons[feature] = has(chosen | refused, feature) ? 'd' : NO_LETTER;
            }
            reasons[ROOT] = 'o';
            boolean goesOn = true;
            for (int step = 0; step < tree.count && goesOn; step++) {
                goesOn = learnLowest(tree, rules);
            }
        }

        private boolean knows(int feature) {
            return has(in | out, feature);
        }

        /** Starts at the lowest number each time, as what was just learned may touch any feature. */
        private boolean learnLowest(Tree tree, Rules rules) {
            for (int feature = 0; feature < tree.count; feature++) {
                if (!knows(feature) && (learnByTree(tree, feature) || learnByRule(rules, feature))) {
                    return true;
                }
            }
            return false;
        }

        private boolean learnByTree(Tree tree, int feature) {
            char letter = letterByKin(tree, feature);
            if (letter == NO_LETTER) {
                letter = letterByGroup(tree, feature);
            }
            if (letter == NO_LETTER) {
                return false;
            }
            learn(feature, letter, letter == 'c' || letter == 'm' || letter == 'n');
            return true;
        }

        private boolean learnByRule(Rules rules, int feature) {
            int rule = rules.lastKeptBy(feature, in, out);
            if (rule < 0) {
                return false;
            }
            reasonRules[feature] = rule;
            learn(feature, 'r', has(rules.wanted[rule], feature));
            return true;
        }

        private void learn(int feature, char letter, boolean isIn) {
            reasons[feature] = letter;
            if (isIn) {
                in |= 1 << feature;
            } else {
                out |= 1 << feature;
            }
        }

        private char letterByKin(Tree tree, int feature) {
            int below = tree.children[feature];
            int parent = tree.parents[feature];
            if ((below & in) != 0) {
                return 'c';
            }
            if (parent >= 0 && has(out, parent)) {
                return 'p';
            }
            if (parent >= 0 && has(in, parent) && has(tree.mandatory, feature)) {
                return 'm';
            }
            return (below & tree.mandatory & out) != 0 ? 'k' : NO_LETTER;
        }

        private char letterByGroup(Tree tree, int feature) {
            int parent = tree.parents[feature];
            if (parent >= 0 && has(in, parent)) {
                int siblings = tree.children[parent];
                if (Integer.bitCount(siblings & in) == tree.greatest[parent]) {
                    return 'f';
                }
                if (Integer.bitCount(siblings & ~out) == tree.least[parent]) {
                    return 'n';
                }
            }
            // More children in than the greatest number can't be met here: one child in told 'c'.
            int possible = Integer.bitCount(tree.children[feature] & ~out);
            return possible < tree.least[feature] ? 'g' : NO_LETTER;
        }
    }

    /** The prices of the features and the layers on top of their sum, the lowest layer first. */
    private static final class Prices {
        private static final int BUNDLE = 0;
        private static final int PERCENT = 1;
        private static final int SURCHARGE = 2;

        private final int[] first = new int[MOST_FEATURES];
        private final int[] kinds = new int[MOST_ADDED_LAYERS];
        private final int[] details = new int[MOST_ADDED_LAYERS];
        private final int[] amounts = new int[MOST_ADDED_LAYERS];
        private int added;

        private void setFirst(int feature, int amount) {
            first[feature] = amount;
        }

        private void append(int kind, int detail, int amount) {
            kinds[added] = kind;
            details[added] = detail;
            amounts[added] = amount;
            added++;
        }

        private int ofSet(int set) {
            int answer = sumOf(set);
            for (int layer = 0; layer < added; layer++) {
                answer = answerOf(layer, set, answer);
            }
            return answer;
        }

        private int sumOf(int set) {
            int sum = 0;
            for (int feature = 0; feature < MOST_FEATURES; feature++) {
                if (has(set, feature)) {
                    sum += first[feature];
                }
            }
            return sum;
        }

        private int answerOf(int layer, int set, int below) {
            int detail = details[layer];
            int amount = amounts[layer];
            switch (kinds[layer]) {
                case BUNDLE:
                    return (detail & ~set) == 0 ? below - amount : below;
                case PERCENT:
                    return below - below * amount / 100;
                default:
                    return below + amount * Math.max(0, Integer.bitCount(set) - detail);
            }
        }

        /** The one that comes first in the order of completions; either may be NONE. */
        private int cheaperOf(int one, int other) {
            if (one < 0 || other < 0) {
                return Math.max(one, other);
            }
            int more = Integer.compare(ofSet(one), ofSet(other));
            if (more == 0) {
                more = Integer.compare(Integer.bitCount(one), Integer.bitCount(other));
            }
            if (more == 0) {
                more = Integer.compare(one, other);
            }
            return more <= 0 ? one : other;
        }
    }

    /** The text that tells what is known of all features. */
    private static final class Line {
        private static final int MOST_SIGNS = 64;

        private final char[] signs = new char[MOST_SIGNS];
        private int length;

        private void write(int features, Deduction deduction) {
            length = 0;
            for (int feature = 0; feature < features; feature++) {
                if (feature > 0) {
                    append(' ');
                }
                if (feature >= 10) {
                    append((char) ('0' + feature / 10));
                }
                append((char) ('0' + feature % 10));
                if (deduction.knows(feature)) {
                    append(deduction.reasons[feature]);
                    append(has(deduction.in, feature) ? '+' : '-');
                } else {
                    append('?');
                }
            }
        }

        private void append(char sign) {
            if (length < MOST_SIGNS) {
                signs[length] = sign;
                length++;
            }
        }
    }
}
