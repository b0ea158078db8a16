import java.lang.reflect.InvocationTargetException;
import java.lang.reflect.Method;
import java.lang.reflect.Modifier;
import java.util.Arrays;
import java.util.Comparator;
import java.util.NoSuchElementException;

/** The calls of the face by their names. */
final class Calls {
    /** By names, as the machine tells them in no sure order. */
    static final Method[] ALL = Arrays.stream(BenchComposer.class.getDeclaredMethods())
            .filter(method -> Modifier.isPublic(method.getModifiers()))
            .sorted(Comparator.comparing(Method::getName))
            .toArray(Method[]::new);

    private Calls() {
    }

    static Method named(String name) {
        for (Method method : ALL) {
            if (method.getName().equals(name)) {
                return method;
            }
        }
        throw new IllegalArgumentException("no call " + name);
    }

    static String told(Method method, Object... given) {
        String list = Arrays.toString(given);
        return method.getName() + "(" + list.substring(1, list.length() - 1) + ")";
    }

    /** The answer as a text; of a call that throws, the exception's class. */
    static String answer(BenchComposer x, Method method, Object... given) {
        try {
            return String.valueOf(method.invoke(x, given));
        } catch (InvocationTargetException e) {
            return e.getCause().getClass().getName();
        } catch (IllegalAccessException e) {
            throw new IllegalStateException(e);
        }
    }

    /** It answered, or threw what the document lets it throw. */
    static boolean isAnswered(BenchComposer x, Method method, Object... given) {
        boolean mayThrow = method.getExceptionTypes().length > 0;
        String answer = answer(x, method, given);
        return answer.matches("-?\\d+|true|false")
                || mayThrow && answer.equals(NoSuchElementException.class.getName());
    }
}
