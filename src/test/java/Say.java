import java.lang.reflect.Method;
import java.lang.reflect.Modifier;
import java.util.Arrays;
import java.util.HashMap;
import java.util.Map;

/** A call written as text, "lane(0, 31, 0)"; MIN and MAX are the ends of int, ALL is what THE TAPE has. */
final class Say {
    private static final Map<String, Method> FACE = new HashMap<>();

    static {
        for (Method m : ScreenTalk.class.getDeclaredMethods()) {
            if (Modifier.isPublic(m.getModifiers())) {
                FACE.put(m.getName(), m);
            }
        }
    }

    private final String text;
    private final Method method;
    private final Object[] numbers;
    private final boolean wholeTape;

    Say(String text) {
        this.text = text;
        int open = text.indexOf('(');
        String inside = text.substring(open + 1, text.length() - 1);
        method = FACE.get(text.substring(0, open));
        wholeTape = inside.equals("ALL");
        numbers = inside.isEmpty() ? new Object[0] : Arrays.stream(inside.split(", ")).map(Say::number).toArray();
        if (method == null || method.getParameterCount() != numbers.length) {
            throw new IllegalArgumentException("no such call: " + text);
        }
    }

    private static Object number(String word) {
        switch (word) {
            case "MIN": return Integer.MIN_VALUE;
            case "MAX": return Integer.MAX_VALUE;
            case "ALL": return 0;
            default: return Integer.valueOf(word);
        }
    }

    int to(ScreenTalk x) {
        try {
            return (int) method.invoke(x, wholeTape ? new Object[] {x.count(1)} : numbers);
        } catch (ReflectiveOperationException e) {
            throw new AssertionError(text + " threw", e);
        }
    }

    @Override
    public String toString() {
        return text;
    }

    static int to(ScreenTalk x, String call) {
        return new Say(call).to(x);
    }

    /** Says each call and tells what isn't as due: calls of a sentence and the answers due, in turn. */
    static void due(String sentence, ScreenTalk x, Object... callsAndAnswers) {
        for (int i = 0; i < callsAndAnswers.length; i += 2) {
            String call = (String) callsAndAnswers[i];
            Due.due(sentence + ": " + call, to(x, call), (int) callsAndAnswers[i + 1]);
        }
    }
}
