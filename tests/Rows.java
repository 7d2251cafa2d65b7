import java.lang.reflect.InvocationTargetException;
import java.lang.reflect.Method;
import java.util.HashMap;
import java.util.Map;

/**
 * Runs calls that are written as the document writes its examples, "sit(0, 0, 0) = 1; rise(3) = 0"; a refused one as
 * "rise(3) = throws.UnsupportedOperationException", a share as "2/3".
 */
final class Rows {
    private static final int MOST_CALLS = 512;
    private static final Map<String, Method> CALLS = callsOf(Placecard.class);
    private static final Map<String, Method> SLOW_CALLS = callsOf(SlowHouse.class);

    private Rows() {
    }

    /** The calls of the face, as a class has them. */
    private static Map<String, Method> callsOf(Class<?> type) {
        Map<String, Method> found = new HashMap<>();
        for (Method method : Placecard.class.getMethods()) {
            try {
                found.put(method.getName(), type.getDeclaredMethod(method.getName(), method.getParameterTypes()));
            } catch (NoSuchMethodException e) {
                // The calls of every object, and those that the slow house leaves out.
                continue;
            }
        }
        return found;
    }

    /** What a call answers, as the document writes it. */
    static String ask(Placecard house, String call) {
        return written(answer(CALLS, house, call));
    }

    static String ask(SlowHouse house, String call) {
        Object answer = answer(SLOW_CALLS, house, call);
        return answer instanceof RuntimeException ? "throws." + answer.getClass().getSimpleName() : written(answer);
    }

    /** Runs the rows on a house; the text tells what a wrong row is found by. Gives how many there were. */
    static int run(Check check, String name, Placecard house, String rows) {
        String[] parts = rows.strip().split("\\s*;\\s*");
        if (parts.length > MOST_CALLS) {
            throw new IllegalArgumentException(name + " asks for more than " + MOST_CALLS + " calls");
        }
        for (int i = 0; i < parts.length; i++) {
            String[] row = parts[i].split("\\s+=\\s+");
            if (row.length != 2) {
                throw new IllegalArgumentException(name + " has a row without an answer: " + parts[i]);
            }
            Object got = answer(CALLS, house, row[0].replaceAll("\\s+", " "));
            check.due(name + ", row " + (i + 1) + ": " + row[0], written(got), wanted(got, row[1]));
        }
        return parts.length;
    }

    static int run(Check check, String name, String rows) {
        return run(check, name, new Placecard(), rows);
    }

    /** Makes a house by rows, which are looked at as well. */
    static Placecard house(Check check, String name, String rows) {
        Placecard house = new Placecard();
        run(check, name, house, rows);
        return house;
    }

    /** What a call, written as the document does, answers, or the exception that it throws. */
    private static Object answer(Map<String, Method> calls, Object house, String call) {
        int open = call.indexOf('(');
        Method method = open < 0 ? null : calls.get(call.substring(0, open).strip());
        if (method == null || !call.endsWith(")")) {
            throw new IllegalArgumentException("no call of the face: " + call);
        }
        String inside = call.substring(open + 1, call.length() - 1).strip();
        String[] texts = inside.isEmpty() ? new String[0] : inside.split(",\\s*");
        Class<?>[] types = method.getParameterTypes();
        if (texts.length != types.length) {
            throw new IllegalArgumentException("a call with as many arguments: " + call);
        }
        Object[] values = new Object[texts.length];
        for (int i = 0; i < texts.length; i++) {
            values[i] = value(types[i], texts[i]);
        }
        try {
            return method.invoke(house, values);
        } catch (InvocationTargetException e) {
            return e.getCause();
        } catch (IllegalAccessException e) {
            throw new IllegalStateException(e);
        }
    }

    private static Object value(Class<?> type, String text) {
        if (type == char.class) {
            if (!text.matches("'.'")) {
                throw new IllegalArgumentException("no sign: " + text);
            }
            return text.charAt(1);
        }
        if (type == boolean.class) {
            if (!text.equals("true") && !text.equals("false")) {
                throw new IllegalArgumentException("neither true nor false: " + text);
            }
            return text.equals("true");
        }
        return Integer.parseInt(text);
    }

    private static String written(Object answer) {
        if (answer instanceof RuntimeException) {
            RuntimeException thrown = (RuntimeException) answer;
            return "throws." + thrown.getClass().getSimpleName() + Check.whoElseThrew(thrown);
        }
        return answer instanceof Character ? "'" + answer + "'" : String.valueOf(answer);
    }

    /** The due answer, with a share worked out in the kind of number that the call answers. */
    private static String wanted(Object answer, String text) {
        int slash = text.indexOf('/');
        if (slash < 0) {
            return text;
        }
        double above = Double.parseDouble(text.substring(0, slash));
        double below = Double.parseDouble(text.substring(slash + 1));
        return answer instanceof Float ? String.valueOf((float) above / (float) below) : String.valueOf(above / below);
    }
}
