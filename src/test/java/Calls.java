import java.lang.reflect.Method;
import java.lang.reflect.Modifier;
import java.util.Arrays;
import java.util.HashMap;
import java.util.Map;
import java.util.Set;
import java.util.TreeSet;
import java.util.stream.Collectors;

/** Calls told as data: the same one can be printed, and asked of the class and of the reference. */
final class Calls {
    private static final Map<String, Method> KNOWN = new HashMap<>();

    private Calls() { }

    static long on(Object target, String name, long... args) {
        Method method = KNOWN.computeIfAbsent(target.getClass().getName() + "." + name, key -> find(target, name));
        Class<?>[] types = method.getParameterTypes();
        Object[] given = new Object[types.length];
        for (int i = 0; i < types.length; i++) {
            given[i] = types[i] == int.class ? (Object) Math.toIntExact(args[i]) : (Object) args[i];
        }
        try {
            return ((Number) method.invoke(target, given)).longValue();
        } catch (ReflectiveOperationException e) {
            throw new IllegalStateException(text(name, args) + " threw", e);
        }
    }

    /** A call in one text, such as "row 0 2 4". */
    static long told(Object target, String call) {
        String[] parts = call.split(" ");
        long[] args = new long[parts.length - 1];
        for (int i = 0; i < args.length; i++) {
            args[i] = Long.parseLong(parts[i + 1]);
        }
        return on(target, parts[0], args);
    }

    /** The parameters are those of the face, so that helpers of the same name are not taken for it. */
    private static Method find(Object target, String name) {
        try {
            return target.getClass().getDeclaredMethod(name, ofFace(name).getParameterTypes());
        } catch (NoSuchMethodException e) {
            throw new IllegalStateException(e);
        }
    }

    static Method ofFace(String name) {
        return Arrays.stream(ConvolutionBench.class.getMethods())
            .filter(method -> method.getName().equals(name))
            .findFirst().orElseThrow(() -> new IllegalStateException("no call " + name));
    }

    static Set<String> namesOfFace() {
        return Arrays.stream(ConvolutionBench.class.getDeclaredMethods())
            .filter(method -> Modifier.isPublic(method.getModifiers()))
            .map(Method::getName).collect(Collectors.toCollection(TreeSet::new));
    }

    static boolean answersLong(String name) {
        return ofFace(name).getReturnType() == long.class;
    }

    static String text(String name, long... args) {
        StringBuilder told = new StringBuilder(name).append('(');
        for (int i = 0; i < args.length; i++) {
            told.append(i == 0 ? "" : ", ").append(args[i]);
        }
        return told.append(')').toString();
    }
}
