import java.lang.reflect.InvocationTargetException;
import java.lang.reflect.Method;

/** Calls of the face by name, so that a test can hold many of them in a table. */
final class Calls {
    private Calls() {
    }

    static long answer(Object of, String name, int... args) {
        Class<?>[] types = new Class<?>[args.length];
        Object[] values = new Object[args.length];
        for (int i = 0; i < args.length; i++) {
            types[i] = int.class;
            values[i] = args[i];
        }
        try {
            Method method = of.getClass().getDeclaredMethod(name, types);
            method.setAccessible(true);
            return ((Number) method.invoke(of, values)).longValue();
        } catch (InvocationTargetException thrown) {
            throw new IllegalStateException(shown(name, args) + " threw", thrown.getCause());
        } catch (ReflectiveOperationException missing) {
            throw new IllegalStateException("no such call: " + shown(name, args), missing);
        }
    }

    static String shown(String name, int... args) {
        StringBuilder line = new StringBuilder(name).append('(');
        for (int i = 0; i < args.length; i++) {
            line.append(i > 0 ? ", " : "").append(args[i]);
        }
        return line.append(')').toString();
    }
}
