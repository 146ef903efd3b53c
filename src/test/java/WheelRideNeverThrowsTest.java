import java.lang.reflect.InvocationTargetException;
import java.lang.reflect.Method;
import java.lang.reflect.Modifier;
import java.util.Arrays;
import java.util.Comparator;

/** Rule 7 of LANGUAGE.md: no call throws, tried over a grid of edge and extreme numbers, without a WHEEL and with one. */
public final class WheelRideNeverThrowsTest {
    private static final Check CHECK = new Check();
    private static final int[] MANY = {Integer.MIN_VALUE, -41, -2, -1, 0, 1, 2, 5, 6, 8, 12, 24, 40, 41, 60, 61, 99, 255,
        999, 1000000, Integer.MAX_VALUE - 1, Integer.MAX_VALUE};
    private static final int[] FEW = {Integer.MIN_VALUE, -1, 0, 1, 7, 8, 12, 40, Integer.MAX_VALUE};

    public static void main(String[] args) throws IllegalAccessException {
        Method[] methods = WheelRide.class.getDeclaredMethods();
        Arrays.sort(methods, Comparator.comparing(Method::getName));
        for (Method method : methods) {
            if (Modifier.isPublic(method.getModifiers())) {
                tryAll(method, new WheelRide(), "a new object");
                tryAll(method, Looks.busy(), "a WHEEL");
            }
        }
        CHECK.end();
    }

    private static void tryAll(Method method, WheelRide x, String state) throws IllegalAccessException {
        int[] from = method.getParameterCount() > 3 ? FEW : MANY;
        Object[] numbers = new Object[method.getParameterCount()];
        int lines = (int) Math.pow(from.length, numbers.length);
        for (int line = 0; line < lines; line++) {
            int rest = line;
            for (int i = 0; i < numbers.length; i++) {
                numbers[i] = from[rest % from.length];
                rest /= from.length;
            }
            CHECK.holds(method.getName() + Arrays.toString(numbers) + " on " + state, isAnswered(method, x, numbers));
        }
    }

    private static boolean isAnswered(Method method, WheelRide x, Object[] numbers) throws IllegalAccessException {
        try {
            return method.invoke(x, numbers) instanceof Number;
        } catch (InvocationTargetException thrown) {
            return false;
        }
    }
}
