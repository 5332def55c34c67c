import java.lang.reflect.InvocationTargetException;
import java.lang.reflect.Method;
import java.util.ArrayList;
import java.util.HashMap;
import java.util.List;
import java.util.Map;

/** One object, asked by calls that are told as texts; it can be made again from them. */
final class Stage {
    /** What an object answers behind its 512th call is free. */
    static final int MOST_CALLS = 512;
    private static final int PROBES_AT_ONCE = 250;
    private static final Map<String, Method> METHODS = new HashMap<>();
    private static final Map<String, Call> PARSED = new HashMap<>();

    static {
        for (Method m : PartnerWorth.class.getMethods()) {
            if (m.getDeclaringClass() == PartnerWorth.class) {
                METHODS.put(m.getName(), m);
            }
        }
    }

    private record Call(Method method, Object[] numbers) {
    }

    private final PartnerWorth x = new PartnerWorth();
    private int calls = 0;

    static Stage of(List<String> told) {
        Stage stage = new Stage();
        for (String call : told) {
            stage.call(call);
        }
        return stage;
    }

    long call(String text) {
        calls++;
        if (calls > MOST_CALLS) {
            throw new IllegalStateException("the test asks one object too often: " + text);
        }
        Call call = PARSED.computeIfAbsent(text, Stage::parse);
        try {
            return ((Number) call.method.invoke(x, call.numbers)).longValue();
        } catch (IllegalAccessException | InvocationTargetException e) {
            throw new IllegalStateException(text + " threw", e);
        }
    }

    private static Call parse(String text) {
        int open = text.indexOf('(');
        Method method = METHODS.get(text.substring(0, open));
        String inside = text.substring(open + 1, text.length() - 1).trim();
        String[] words = inside.isEmpty() ? new String[0] : inside.split(",");
        if (method == null || method.getParameterCount() != words.length) {
            throw new IllegalStateException("there is no such call: " + text);
        }
        Object[] numbers = new Object[words.length];
        for (int k = 0; k < words.length; k++) {
            long number = number(words[k].trim());
            boolean asInt = method.getParameterTypes()[k] == int.class;
            numbers[k] = asInt ? (Object) Math.toIntExact(number) : (Object) number;
        }
        return new Call(method, numbers);
    }

    private static long number(String word) {
        switch (word) {
            case "MIN": return Long.MIN_VALUE;
            case "MAX": return Long.MAX_VALUE;
            case "IMIN": return Integer.MIN_VALUE;
            case "IMAX": return Integer.MAX_VALUE;
            default: return Long.parseLong(word);
        }
    }

    /** All that can be seen of an object behind these calls, the tape's bytes and the image, too. */
    static List<String> whole(List<String> told) {
        Stage first = of(told);
        int n = (int) first.call("told(0)");
        int bytes = (int) first.call("told(6)");
        List<String> seen = new ArrayList<>();
        List<String> probes = council(n);
        for (int row = 0; row < 4; row++) {
            probes.add("set(" + row + ", 20, 0)");
            for (int i = 0; i < 20; i++) {
                probes.add("get(" + row + ", " + i + ")");
            }
        }
        for (int i = 0; i <= bytes; i++) {
            probes.add("paper(" + i + ")");
        }
        look(told, "clear()", probes, seen);
        look(told, "read(3)", values(3, n), seen);
        Stage undone = of(told);
        undone.call("undo()");
        look(told, "undo()", council((int) undone.call("told(0)")), seen);
        return seen;
    }

    private static void look(List<String> told, String ahead, List<String> probes, List<String> seen) {
        Stage stage = null;
        for (int k = 0; k < probes.size(); k++) {
            if (k % PROBES_AT_ONCE == 0) {
                stage = of(told);
                seen.add("behind " + ahead + ", which answers " + stage.call(ahead));
            }
            seen.add(probes.get(k) + " is " + stage.call(probes.get(k)));
        }
    }

    private static List<String> values(int game, int n) {
        List<String> probes = new ArrayList<>();
        for (int set = 0; set < 1 << n; set++) {
            probes.add("valueOf(" + game + ", " + set + ")");
        }
        return probes;
    }

    private static List<String> council(int n) {
        List<String> probes = new ArrayList<>();
        for (int what = 0; what < 20; what++) {
            probes.add("told(" + what + ")");
        }
        for (int game = 0; game < 4; game++) {
            probes.addAll(values(game, n));
        }
        for (int a = 0; a < n; a++) {
            probes.add("union(" + a + ")");
            for (int b = a + 1; b < n; b++) {
                probes.add("worth(" + a + ", " + b + ")");
            }
        }
        return probes;
    }
}
