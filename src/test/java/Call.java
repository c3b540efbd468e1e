import java.lang.reflect.Method;
import java.util.HashMap;
import java.util.Map;

/** One call told as text, such as "field(0, 0, 10, 10)", that can be made on a CleanSeed or on a Model. */
record Call(String text, String name, long[] args) {
    private static final Map<String, Method> OFFICE = methodsOf(CleanSeed.class);
    private static final Map<String, Method> MODEL = methodsOf(Model.class);

    static Call of(String text) {
        int bracket = text.indexOf('(');
        String inside = text.substring(bracket + 1, text.length() - 1);
        String[] parts = inside.isEmpty() ? new String[0] : inside.split(", ");
        long[] args = new long[parts.length];
        for (int i = 0; i < parts.length; i++) {
            args[i] = Long.parseLong(parts[i]);
        }
        return new Call(text, text.substring(0, bracket), args);
    }

    static Call of(String name, long... args) {
        StringBuilder text = new StringBuilder(name).append('(');
        for (int i = 0; i < args.length; i++) {
            text.append(i == 0 ? "" : ", ").append(args[i]);
        }
        return new Call(text.append(')').toString(), name, args.clone());
    }

    long on(CleanSeed office) {
        return make(OFFICE.get(name), office);
    }

    long on(Model model) {
        return make(MODEL.get(name), model);
    }

    /** What the document tells a refused call to answer. */
    long refusal() {
        boolean answersNothing = name.equals("ways") || name.equals("buyers");
        return answersNothing || OFFICE.get(name).getReturnType() == boolean.class ? 0 : CleanSeed.NONE;
    }

    private long make(Method method, Object target) {
        Object[] given = new Object[args.length];
        for (int i = 0; i < args.length; i++) {
            boolean isLong = method.getParameterTypes()[i] == long.class;
            if (isLong) {
                given[i] = args[i];
            } else {
                given[i] = Math.toIntExact(args[i]);
            }
        }
        try {
            Object answer = method.invoke(target, given);
            return answer instanceof Boolean yes ? (yes ? 1 : 0) : ((Number) answer).longValue();
        } catch (ReflectiveOperationException e) {
            throw new IllegalStateException(text + " threw " + e.getCause(), e);
        }
    }

    private static Map<String, Method> methodsOf(Class<?> type) {
        Map<String, Method> found = new HashMap<>();
        for (Method method : type.getDeclaredMethods()) {
            if (!java.lang.reflect.Modifier.isPrivate(method.getModifiers())) {
                found.put(method.getName(), method);
            }
        }
        return found;
    }
}
