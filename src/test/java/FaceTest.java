import java.lang.reflect.Constructor;
import java.lang.reflect.Member;
import java.lang.reflect.Method;
import java.lang.reflect.Modifier;
import java.util.Arrays;
import java.util.stream.Collectors;
import java.util.stream.Stream;

/** The public face: it is the document's, and nothing but that can be reached. */
public final class FaceTest {
    private static final String[] FACE = {
        "int addFeature(int, int) B A S",
        "boolean setMandatory(int, boolean) B A U",
        "int setGroup(int, int, int) B A U",
        "int require(int, int) B A S U",
        "int exclude(int, int) B A S U",
        "int any(int, int, int) B A S U",
        "int lift(int) N S",
        "int choose(int) B A S U",
        "int refuse(int) B A S U",
        "char retract(int) B S",
        "int retractAll()",
        "char stateOf(int) B",
        "char stateByAll(int) B",
        "char known(int) B",
        "char reasonOf(int) B N",
        "int reasonRule(int) B N",
        "int unknown()",
        "boolean isConfiguration(int) A",
        "long completions()",
        "long completionsByAll()",
        "int addBundle(int, int, int) B A S",
        "int addPercent(int) A S",
        "int addSurcharge(int, int) A S",
        "int removeLayer() S",
        "int price(int) A",
        "int cheapest()",
        "int cheapestByAll()",
        "int complete()",
        "int fewest(int, boolean) B N",
        "int toRetract(int, boolean) B N",
        "int force(int, boolean) B A N",
        "int lineLength()",
        "char lineAt(int) B",
        "float knownShare()",
        "double meanPrice()",
        "boolean isSound()",
    };

    public static void main(String[] args) {
        Class<?> type = TreeConfigurator.class;
        int modifiers = type.getModifiers();
        Due.answer("public and final",
                Modifier.isPublic(modifiers) && Modifier.isFinal(modifiers), true);
        Due.answer("the package", type.getPackageName(), "");
        Due.answer("the constructors",
                Arrays.stream(type.getDeclaredConstructors()).map(FaceTest::told)
                        .collect(Collectors.joining()), "public()");
        Due.answer("the methods",
                reachable(type.getDeclaredMethods()).map(method -> told((Method) method))
                        .sorted().collect(Collectors.joining("\n")),
                Arrays.stream(FACE).sorted().collect(Collectors.joining("\n")));
        Due.answer("fields that can be reached", reachable(type.getDeclaredFields()).count(), 0L);
        Due.end();
    }

    private static Stream<Member> reachable(Member[] members) {
        return Arrays.stream(members)
                .filter(member -> !Modifier.isPrivate(member.getModifiers()) && !member.isSynthetic());
    }

    private static String told(Constructor<?> constructor) {
        return Modifier.toString(constructor.getModifiers()) + types(constructor.getParameterTypes());
    }

    private static String told(Method method) {
        String exceptions = Arrays.stream(method.getExceptionTypes())
                .map(type -> " " + letter(type.getSimpleName()))
                .collect(Collectors.joining());
        String modifiers = method.getModifiers() == Modifier.PUBLIC ? "" : "not just public ";
        return modifiers + method.getReturnType() + " " + method.getName()
                + types(method.getParameterTypes()) + exceptions;
    }

    private static String types(Class<?>[] types) {
        return Arrays.stream(types).map(Class::getName).collect(Collectors.joining(", ", "(", ")"));
    }

    private static String letter(String exception) {
        return switch (exception) {
            case "IndexOutOfBoundsException" -> "B";
            case "IllegalArgumentException" -> "A";
            case "IllegalStateException" -> "S";
            case "UnsupportedOperationException" -> "U";
            case "NoSuchElementException" -> "N";
            default -> exception;
        };
    }
}
