import java.lang.reflect.Method;
import java.util.Arrays;

/** Calls told as texts: a name and numbers, where 1 stands for true. */
final class Calls {
    private Calls() {
    }

    static String text(String name, int... numbers) {
        return name + Arrays.toString(numbers).replace('[', '(').replace(']', ')');
    }

    static long answer(TwiceStolen x, String name, int... numbers) {
        try {
            Method method = named(name);
            Class<?>[] types = method.getParameterTypes();
            Object[] arguments = new Object[numbers.length];
            for (int i = 0; i < numbers.length; i++) {
                if (types[i] == boolean.class) {
                    arguments[i] = numbers[i] == 1;
                } else {
                    arguments[i] = numbers[i];
                }
            }
            return ((Number) method.invoke(x, arguments)).longValue();
        } catch (ReflectiveOperationException e) {
            throw new IllegalStateException(text(name, numbers), e);
        }
    }

    private static Method named(String name) {
        for (Method method : TwiceStolen.class.getDeclaredMethods()) {
            if (method.getName().equals(name)) {
                return method;
            }
        }
        throw new IllegalArgumentException(name);
    }
}
