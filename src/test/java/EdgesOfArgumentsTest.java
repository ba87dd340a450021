import java.lang.reflect.InvocationTargetException;
import java.lang.reflect.Method;
import java.lang.reflect.Modifier;
import java.util.Arrays;
import java.util.List;
import java.util.function.Consumer;

/**
 * Whatever the arguments, in whatever state: a call throws nothing but what the document names for it, and
 * then it has changed nothing.
 */
public final class EdgesOfArgumentsTest {
    private static final int[] FEW = {Integer.MIN_VALUE, -61, -1, 0, 2, 5, 12, 20000, Integer.MAX_VALUE};
    private static final int[] MANY = {Integer.MIN_VALUE, Integer.MIN_VALUE + 1, -10000, -100, -2, -1, 0, 1, 3, 4, 5, 7, 8,
        11, 12, 39, 40, 41, 59, 60, 99, 100, 1000, 1001, 9999, 10000, 10001, 19999, 20000, Integer.MAX_VALUE};

    private static int tried = 0;
    private static int refused = 0;

    private static void full(TeaCourt court) {
        Still.everything(court);
        for (int i = 6; i < 40; i++) {
            court.lot(i % 5, i, i);
        }
        for (int i = 3; i < 60; i++) {
            court.sit(2);
        }
        court.part(0, 9);
        court.part(1, 9);
    }

    private static void tried(Method method, Object[] arguments, Consumer<TeaCourt> scene, String untouched)
            throws IllegalAccessException {
        TeaCourt court = new TeaCourt();
        scene.accept(court);
        tried++;
        try {
            method.invoke(court, arguments);
        } catch (InvocationTargetException e) {
            refused++;
            String call = method.getName() + Arrays.toString(arguments);
            Class<?> thrown = e.getCause().getClass();
            Check.same(call + " throws " + thrown.getSimpleName() + ", which is named for it", true,
                    List.of(method.getExceptionTypes()).contains(thrown));
            Check.same(call + " is refused, and what is told behind it", untouched, Told.of(court));
        }
    }

    private static void allArguments(Method method, Consumer<TeaCourt> scene) throws IllegalAccessException {
        TeaCourt court = new TeaCourt();
        scene.accept(court);
        String untouched = Told.of(court);
        int count = method.getParameterCount();
        int[] values = count < 3 ? MANY : FEW;
        int all = 1;
        for (int i = 0; i < count; i++) {
            all *= values.length;
        }
        for (int n = 0; n < all; n++) {
            Object[] arguments = new Object[count];
            int left = n;
            for (int i = 0; i < count; i++) {
                arguments[i] = values[left % values.length];
                left /= values.length;
            }
            tried(method, arguments, scene, untouched);
        }
    }

    public static void main(String[] args) throws IllegalAccessException {
        int methods = 0;
        for (Method method : TeaCourt.class.getDeclaredMethods()) {
            if (Modifier.isPublic(method.getModifiers())) {
                methods++;
                allArguments(method, c -> { });
                allArguments(method, Still::everything);
                allArguments(method, EdgesOfArgumentsTest::full);
            }
        }
        Check.due("methods", 23, methods);
        System.out.println(tried + " calls tried, " + refused + " refused");
        Check.end();
    }
}
