import java.lang.reflect.InvocationTargetException;
import java.lang.reflect.Method;
import java.util.HashMap;
import java.util.Map;

/** Makes calls of one house that are told by texts like "atom('a', false)", as texts of the project tell them. */
final class Calls {
    private final Sidelessly house = new Sidelessly();
    private final Map<String, Object> names = new HashMap<>();

    /** The answer, or the exception, as it is written in such a text: 'a' for a sign, "throws .." for an exception. */
    String answerOf(String call) {
        return shown(made(call));
    }

    /** Like the above, and the answer has a name from then on. */
    String answerOf(String call, String name) {
        Object answer = made(call);
        names.put(name, answer);
        return shown(answer);
    }

    private Object made(String call) {
        int open = call.indexOf('(');
        String inner = call.substring(open + 1, call.lastIndexOf(')')).trim();
        String[] words = inner.isEmpty() ? new String[0] : inner.split("\\s*,\\s*");
        Object[] given = new Object[words.length];
        for (int index = 0; index < words.length; index++) {
            given[index] = valueOf(words[index]);
        }
        Method method = methodOf(call.substring(0, open).trim());
        try {
            return method.invoke(house, given);
        } catch (InvocationTargetException e) {
            return e.getCause();
        } catch (IllegalAccessException e) {
            throw new IllegalStateException("can't be called: " + call);
        }
    }

    private Object valueOf(String word) {
        if (names.containsKey(word)) {
            return names.get(word);
        }
        if (word.equals("true") || word.equals("false")) {
            return word.equals("true");
        }
        return word.startsWith("'") ? (Object) word.charAt(1) : (Object) Integer.parseInt(word);
    }

    private static Method methodOf(String name) {
        for (Method method : Sidelessly.class.getMethods()) {
            if (method.getName().equals(name) && method.getDeclaringClass() == Sidelessly.class) {
                return method;
            }
        }
        throw new IllegalStateException("there is no method " + name);
    }

    private static String shown(Object answer) {
        if (answer instanceof Throwable) {
            return "throws " + answer.getClass().getSimpleName();
        }
        return answer instanceof Character ? "'" + answer + "'" : String.valueOf(answer);
    }
}
