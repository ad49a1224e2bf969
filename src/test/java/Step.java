import java.lang.reflect.InvocationTargetException;
import java.lang.reflect.Method;
import java.util.ArrayList;
import java.util.HashMap;
import java.util.List;
import java.util.Map;

/** A call of the face as a name and its arguments, to be played on a ring or on the model. */
record Step(String name, Object... args) {
    private static final Map<Class<?>, Map<String, Method>> METHODS = new HashMap<>();

    /** A step told as it is written in the document: "say(0, 25)". */
    static Step of(String call) {
        int open = call.indexOf('(');
        List<Object> args = new ArrayList<>();
        for (String arg : call.substring(open + 1, call.length() - 1).split(", ")) {
            if (arg.equals("true") || arg.equals("false")) {
                args.add(arg.equals("true"));
            } else if (!arg.isEmpty()) {
                args.add(Integer.valueOf(arg));
            }
        }
        return new Step(call.substring(0, open), args.toArray());
    }

    Object on(Object target) {
        try {
            return methods(target.getClass()).get(name).invoke(target, args);
        } catch (InvocationTargetException e) {
            if (e.getCause() instanceof RuntimeException thrown) {
                throw thrown;
            }
            throw new AssertionError(this + " must not end so", e.getCause());
        } catch (IllegalAccessException e) {
            throw new AssertionError(e);
        }
    }

    private static Map<String, Method> methods(Class<?> of) {
        return METHODS.computeIfAbsent(of, Step::declaredMethods);
    }

    private static Map<String, Method> declaredMethods(Class<?> of) {
        Map<String, Method> methods = new HashMap<>();
        for (Method method : of.getDeclaredMethods()) {
            methods.put(method.getName(), method);
        }
        return methods;
    }

    /** What the step answers, as a text; an exception counts as its name behind "throws.". */
    String answerOn(Object target) {
        return String.valueOf(Check.result(() -> on(target)));
    }

    @Override
    public String toString() {
        StringBuilder text = new StringBuilder(name).append('(');
        for (int i = 0; i < args.length; i++) {
            text.append(i == 0 ? "" : ", ").append(args[i]);
        }
        return text.append(')').toString();
    }
}
