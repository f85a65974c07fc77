import java.lang.reflect.InvocationTargetException;
import java.lang.reflect.Method;
import java.util.ArrayList;
import java.util.Arrays;
import java.util.List;

/**
 * All promises: long runs of calls, drawn by a fixed seed, on the class and on the oracle. Each
 * object is used for at most 512 calls, as no more is promised.
 */
public final class OracleTest {
    private static final int CALLS = 512;
    private static final int RUNS = 400;

    /** The calls that build and decide come more often than the others, each as its number says. */
    private static final String[] OFTEN = {
        "addFeature 9", "setMandatory 5", "setGroup 7", "require 6", "exclude 6", "any 4", "lift 2",
        "choose 9", "refuse 9", "retract 9", "retractAll 3", "stateOf 4", "stateByAll 4",
        "addBundle 2", "addPercent 2", "addSurcharge 2", "removeLayer 3", "isConfiguration 4",
        "price 4", "fewest 2", "toRetract 3", "force 4", "reasonOf 5", "reasonRule 6", "known 3",
        "lineAt 5",
    };

    private final long seed;
    private long state;
    private final Method[] methods = methodsOf(TreeConfigurator.class);
    private final List<Integer> urn = new ArrayList<>();
    private int features = 1;
    private int rules = 0;
    private final int mostFeatures;
    private final int mostRules;
    private final int tied;

    private OracleTest(long seed) {
        this.seed = seed;
        this.state = seed * 0x9E3779B97F4A7C15L + 1;
        this.mostFeatures = 2 + draw(11);
        this.mostRules = draw(3) == 0 ? 20 : draw(8);
        this.tied = 1 + draw(4);
        for (int method = 0; method < methods.length; method++) {
            int times = 1;
            for (String often : OFTEN) {
                String[] parts = often.split(" ");
                times = parts[0].equals(methods[method].getName()) ? Integer.parseInt(parts[1]) : times;
            }
            for (int time = 0; time < times; time++) {
                urn.add(method);
            }
        }
    }

    public static void main(String[] args) throws ReflectiveOperationException {
        int runs = args.length > 0 ? Integer.parseInt(args[0]) : RUNS;
        for (int run = 1; run <= runs; run++) {
            if (!new OracleTest(run).agrees()) {
                break;
            }
        }
        Due.end();
    }

    private static Method[] methodsOf(Class<?> type) {
        Method[] methods = type.getDeclaredMethods();
        Method[] faces = Arrays.stream(methods)
                .filter(method -> (method.getModifiers() & java.lang.reflect.Modifier.PUBLIC) != 0)
                .toArray(Method[]::new);
        Arrays.sort(faces, (one, other) -> one.getName().compareTo(other.getName()));
        return faces;
    }

    private int draw(int bound) {
        state = state * 6364136223846793005L + 1442695040888963407L;
        return (int) ((state >>> 33) % bound);
    }

    /** Stops at the first difference: the calls after it would only repeat it. */
    private boolean agrees() throws ReflectiveOperationException {
        TreeConfigurator one = new TreeConfigurator();
        Oracle other = new Oracle();
        List<String> told = new ArrayList<>();
        for (int call = 0; call < CALLS; call++) {
            Method method = methods[urn.get(draw(urn.size()))];
            if (isLeftOut(method.getName())) {
                continue;
            }
            Object[] arguments = argumentsFor(method);
            Object got = answer(method, one, arguments);
            Method same = Oracle.class.getMethod(method.getName(), method.getParameterTypes());
            Object want = answer(same, other, arguments);
            told.add(method.getName() + Arrays.toString(arguments) + " -> " + got);
            Due.answer("seed " + seed + ", call " + call + ": " + told.get(told.size() - 1), got, want);
            if (!got.equals(want)) {
                told.forEach(System.out::println);
                return false;
            }
            if (got instanceof Integer) {
                features += method.getName().equals("addFeature") ? 1 : 0;
                rules += isRule(method.getName()) ? 1 : 0;
            }
        }
        return true;
    }

    private static boolean isRule(String name) {
        return name.equals("require") || name.equals("exclude") || name.equals("any");
    }

    /** Keeps most runs from ending up with all tied by rules or decided, and the sizes varied. */
    private boolean isLeftOut(String name) {
        if (name.equals("addFeature")) {
            return features >= mostFeatures && draw(20) > 0;
        }
        if (isRule(name)) {
            return rules >= mostRules && draw(20) > 0;
        }
        boolean ties = name.equals("complete") || name.equals("setMandatory") || name.equals("setGroup");
        return ties && draw(6) >= tied;
    }

    private static Object answer(Method method, Object object, Object[] arguments)
            throws ReflectiveOperationException {
        try {
            return method.invoke(object, arguments);
        } catch (InvocationTargetException e) {
            return "throws " + e.getCause().getClass().getSimpleName();
        }
    }

    private Object[] argumentsFor(Method method) {
        Class<?>[] types = method.getParameterTypes();
        Object[] arguments = new Object[types.length];
        for (int index = 0; index < types.length; index++) {
            arguments[index] = types[index] == boolean.class
                    ? (Object) (draw(2) == 1) : (Object) number(method.getName(), index);
        }
        return arguments;
    }

    private int number(String name, int index) {
        if (draw(60) == 0) {
            return wild();
        }
        switch (name) {
            case "isConfiguration", "price":
                return draw(25) == 0 ? draw(9000) - 100 : draw(1 << features) | (draw(9) > 0 ? 1 : 0);
            case "lineAt":
                return draw(6 * features);
            case "lift":
                return draw(21);
            case "addPercent":
                return draw(4) == 0 ? draw(104) - 1 : draw(3) * 50;
            case "addSurcharge":
                return index == 0 ? draw(15) - 1 : amount();
            case "setGroup":
                return index == 0 ? feature() : index == 1 ? draw(3) * draw(2)
                        : draw(4) == 0 ? draw(15) : 1 + draw(4);
            case "addFeature", "addBundle":
                boolean isAmount = index == 2 || index == 1 && name.equals("addFeature");
                return isAmount ? amount() : feature();
            default:
                return features > 1 && draw(4) > 0 ? 1 + draw(features - 1) : feature();
        }
    }

    private int wild() {
        int[] wild = {
            -1, 0, 12, 13, 20, 31, 32, 33, 64, 999, 1000, 4095, 4096, -2,
            Integer.MAX_VALUE, Integer.MIN_VALUE,
        };
        return wild[draw(wild.length)];
    }

    private int amount() {
        return draw(3) == 0 ? draw(1003) - 1 : draw(5) * 10;
    }

    private int feature() {
        return draw(40) == 0 ? features : draw(8) == 0 ? 0 : draw(features);
    }
}
