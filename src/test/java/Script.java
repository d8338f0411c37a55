import java.lang.reflect.InvocationTargetException;
import java.lang.reflect.Method;
import java.util.ArrayList;
import java.util.HashMap;
import java.util.List;
import java.util.Map;
import java.util.regex.Matcher;
import java.util.regex.Pattern;

/**
 * A row of calls as they are written, "boat(3, 0, 1); take(0, 1)", that can be
 * made on any object of the class or of the model. MIN and MAX are the least and
 * the greatest int; "write(53/42)" hands a text to letters(), eight at a time.
 */
final class Script {
    private static final Pattern CALL = Pattern.compile("(\\w+)\\((.*)\\)");
    private static final Map<Class<?>, Map<String, Method>> FACES = new HashMap<>();

    private final List<Step> steps = new ArrayList<>();

    private static final class Step {
        final String name;
        final long[] args;

        Step(String name, long... args) {
            this.name = name;
            this.args = args;
        }
    }

    Script(String calls) {
        if (calls.isEmpty()) {
            return;
        }
        for (String call : calls.split("; ")) {
            Matcher m = CALL.matcher(call);
            if (!m.matches()) {
                throw new IllegalArgumentException("no call: " + call);
            }
            if (m.group(1).equals("write")) {
                addText(m.group(2));
            } else {
                steps.add(new Step(m.group(1), numbers(m.group(2))));
            }
        }
    }

    static String times(int n, String call) {
        return String.join("; ", java.util.Collections.nCopies(n, call));
    }

    /** Two rows of calls as one; either may be empty. */
    static String joined(String first, String second) {
        return first.isEmpty() ? second : second.isEmpty() ? first : first + "; " + second;
    }

    private void addText(String text) {
        for (int from = 0; from < text.length(); from += 8) {
            steps.add(new Step("letters", Check.packed(text, from)));
        }
    }

    private static long[] numbers(String told) {
        if (told.isBlank()) {
            return new long[0];
        }
        String[] parts = told.split(",");
        long[] numbers = new long[parts.length];
        for (int i = 0; i < parts.length; i++) {
            String part = parts[i].strip();
            numbers[i] = part.equals("MIN") ? Integer.MIN_VALUE
                    : part.equals("MAX") ? Integer.MAX_VALUE : Long.decode(part);
        }
        return numbers;
    }

    /** The answers of all calls, made on one object. */
    long[] answersOf(Object x) {
        long[] answers = new long[steps.size()];
        for (int i = 0; i < answers.length; i++) {
            answers[i] = call(x, steps.get(i));
        }
        return answers;
    }

    /** The answer of the last call. */
    long lastOf(Object x) {
        long[] answers = answersOf(x);
        return answers[answers.length - 1];
    }

    String callAt(int i) {
        StringBuilder args = new StringBuilder();
        for (long arg : steps.get(i).args) {
            args.append(args.length() == 0 ? "" : ", ").append(arg);
        }
        return steps.get(i).name + "(" + args + ")";
    }

    private static long call(Object x, Step step) {
        Method method = faceOf(x.getClass()).get(step.name);
        if (method == null || method.getParameterCount() != step.args.length) {
            throw new IllegalArgumentException("no such call: " + step.name);
        }
        Object[] args = new Object[step.args.length];
        for (int i = 0; i < args.length; i++) {
            args[i] = method.getParameterTypes()[i] == long.class
                    ? (Object) step.args[i] : (Object) Math.toIntExact(step.args[i]);
        }
        try {
            return ((Number) method.invoke(x, args)).longValue();
        } catch (IllegalAccessException e) {
            throw new IllegalStateException(step.name, e);
        } catch (InvocationTargetException e) {
            throw new IllegalStateException(step.name + " threw", e.getCause());
        }
    }

    private static Map<String, Method> faceOf(Class<?> type) {
        return FACES.computeIfAbsent(type, t -> {
            Map<String, Method> face = new HashMap<>();
            for (Method method : t.getDeclaredMethods()) {
                if (!java.lang.reflect.Modifier.isPrivate(method.getModifiers())) {
                    face.put(method.getName(), method);
                }
            }
            return face;
        });
    }
}
