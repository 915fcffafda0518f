import java.lang.reflect.Method;
import java.lang.reflect.Modifier;
import java.util.HashMap;
import java.util.Map;

/** A call that is told by the method's name and its arguments: of the class, or of the Reference. */
final class Call {
    private static final Map<Class<?>, Map<String, Method>> METHODS = new HashMap<>();

    private final String name;
    private final long[] arguments;

    Call(String name, long... arguments) {
        this.name = name;
        this.arguments = arguments.clone();
    }

    /** Returns what the method of the object answers; what it throws ends the test. */
    int on(Object x) {
        Method method = methodsOf(x.getClass()).get(name);
        Object[] given = new Object[arguments.length];
        for (int i = 0; i < given.length; i++) {
            given[i] = method.getParameterTypes()[i] == long.class ? (Object) arguments[i] : (int) arguments[i];
        }
        try {
            return (int) method.invoke(x, given);
        } catch (ReflectiveOperationException e) {
            throw new IllegalStateException(this + " threw", e);
        }
    }

    private static Map<String, Method> methodsOf(Class<?> type) {
        return METHODS.computeIfAbsent(type, Call::openMethodsOf);
    }

    private static Map<String, Method> openMethodsOf(Class<?> type) {
        Map<String, Method> found = new HashMap<>();
        for (Method method : type.getDeclaredMethods()) {
            if (!Modifier.isPrivate(method.getModifiers())) {
                found.put(method.getName(), method);
            }
        }
        return found;
    }

    @Override
    public String toString() {
        StringBuilder told = new StringBuilder(name).append('(');
        for (int i = 0; i < arguments.length; i++) {
            told.append(i > 0 ? ", " : "").append(arguments[i]);
        }
        return told.append(')').toString();
    }
}
