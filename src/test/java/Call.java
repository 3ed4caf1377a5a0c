import java.lang.reflect.InvocationTargetException;
import java.lang.reflect.Method;
import java.util.ArrayList;
import java.util.HashMap;
import java.util.List;
import java.util.Map;
import java.util.regex.Matcher;
import java.util.regex.Pattern;

/**
 * A call of the face, read from its text, such as "pay(1, 1500, 20)".
 *
 * <p>Some words stand for numbers that the house tells as the call is made: t the latest ticket, s the
 * latest STATUS less 1 (behind a day(): yesterday), h1 a half that is RIGHT for ticket 1 (ht for the latest),
 * o1 what is OWED of it; min and max are the least and the most int.
 */
final class Call {
    private static final Pattern SHAPE = Pattern.compile("([a-z]+)\\(([^)]*)\\)");
    private static final Map<String, Method> FACE = new HashMap<>();

    static {
        for (Method m : PledgeHouse.class.getDeclaredMethods()) {
            FACE.put(m.getName(), m);
        }
    }

    private final String text;
    private final Method method;
    private final String[] words;

    private Call(String text, Method method, String[] words) {
        this.text = text;
        this.method = method;
        this.words = words;
    }

    /** All calls of a text, one behind the other; what stands between them is not read. */
    static List<Call> all(String text) {
        List<Call> calls = new ArrayList<>();
        Matcher found = SHAPE.matcher(text);
        while (found.find()) {
            String inside = found.group(2).trim();
            String[] words = inside.isEmpty() ? new String[0] : inside.split("\\s*,\\s*");
            Method method = FACE.get(found.group(1));
            if (method == null || method.getParameterCount() != words.length) {
                throw new IllegalArgumentException("no such call: " + found.group());
            }
            calls.add(new Call(found.group(), method, words));
        }
        return calls;
    }

    static Call one(String text) {
        List<Call> calls = all(text);
        if (calls.size() != 1) {
            throw new IllegalArgumentException("not one call: " + text);
        }
        return calls.get(0);
    }

    long on(PledgeHouse x) {
        Object[] values = new Object[words.length];
        for (int i = 0; i < words.length; i++) {
            values[i] = method.getParameterTypes()[i] == float.class
                ? (Object) Float.parseFloat(words[i]) : (Object) number(words[i], x);
        }
        try {
            return ((Number) method.invoke(x, values)).longValue();
        } catch (InvocationTargetException | IllegalAccessException e) {
            throw new IllegalStateException(text + " threw", e);
        }
    }

    private static int number(String word, PledgeHouse x) {
        switch (word.charAt(0)) {
            case 'm': return word.equals("min") ? Integer.MIN_VALUE : Integer.MAX_VALUE;
            case 't': return x.half() / 1000;
            case 's': return x.status() - 1;
            case 'h': {
                int ticket = number(word.substring(1), x);
                int half = x.told(ticket, 16);
                return half == PledgeHouse.NONE ? 1000 * ticket : half;
            }
            case 'o': {
                int ticket = number(word.substring(1), x);
                return x.told(ticket, 1) + x.told(ticket, 2);
            }
            default: return Integer.parseInt(word);
        }
    }

    public String toString() {
        return text;
    }
}
