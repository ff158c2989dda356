import java.lang.reflect.InvocationTargetException;
import java.lang.reflect.Method;
import java.util.ArrayList;
import java.util.HashMap;
import java.util.List;
import java.util.Map;

/** A call of the face, told by its name and arguments, that can be made on any vehicle. */
record Call(String name, List<Object> arguments) {
    private static final Map<Class<?>, Map<String, Method>> METHODS = new HashMap<>();

    static Call of(String name, Object... arguments) {
        return new Call(name, List.of(arguments));
    }

    /** A call by its name and its arguments as they are written, with ", " between them. */
    static Call read(String name, String written) {
        List<Object> arguments = new ArrayList<>();
        for (String word : written.split(", ")) {
            if (!word.isEmpty()) {
                arguments.add(value(word));
            }
        }
        return new Call(name, arguments);
    }

    /** What a written number, sign or truth stands for. */
    static Object value(String word) {
        if (word.equals("true") || word.equals("false")) {
            return Boolean.valueOf(word);
        }
        return word.startsWith("'") ? (Object) word.charAt(1) : Integer.valueOf(word);
    }

    /** The answer as a text; "throws X" if the call throws just X. */
    String on(Object vehicle) {
        Method method = METHODS.computeIfAbsent(vehicle.getClass(), Call::methodsOf).get(name);
        try {
            return String.valueOf(method.invoke(vehicle, arguments.toArray()));
        } catch (InvocationTargetException e) {
            return "throws " + e.getCause().getClass().getSimpleName();
        } catch (IllegalAccessException e) {
            throw new IllegalStateException(e);
        }
    }

    private static Map<String, Method> methodsOf(Class<?> face) {
        Map<String, Method> methods = new HashMap<>();
        for (Method method : face.getMethods()) {
            methods.put(method.getName(), method);
        }
        return methods;
    }

    @Override
    public String toString() {
        String listed = arguments.toString();
        return name + "(" + listed.substring(1, listed.length() - 1) + ")";
    }
}
