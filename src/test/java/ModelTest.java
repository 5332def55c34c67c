import java.lang.reflect.InvocationTargetException;
import java.lang.reflect.Method;
import java.util.ArrayList;
import java.util.Arrays;
import java.util.HashMap;
import java.util.List;
import java.util.Map;

/**
 * Long mixed runs of calls, the same ones each time, with answers that the Model gives, too; and the whole
 * state is compared on the way.
 */
public final class ModelTest {
    /** A call, and the kind of number that it takes at each place. */
    private static final String[] CALLS = {
        "partners n", "value gsv", "value gsv", "value gsv", "valueOf gs", "weight pw", "weight pw", "quota hq",
        "edge ppe", "edge ppe", "cut pp", "unite pp", "unite pp", "feed l", "clear", "read g", "make gh", "make gh",
        "pairs gss", "copy gg", "add gg", "add gg", "times gc", "times gc", "dual g", "cover g", "mask gs",
        "unanimous gsv", "unanimous gsv", "without gp", "join gpp", "swap gpp", "differ gg", "unlike g",
        "adds grik", "pivot ri", "share gpd", "share gpd", "power gp", "owen gpd", "owen gpd", "dividend gs",
        "swings ph", "pivots pd", "holder pd", "votes h", "kind gh", "alike gp", "carrier g", "is gh", "is gh",
        "union p", "stable gri", "worst gri", "excess gris", "spell g", "paper o", "told t", "worth pp",
        "row ry", "set riv", "get ri", "lay rig", "image", "undo",
    };
    private static final long[] EXTREMES = {Integer.MIN_VALUE, Integer.MAX_VALUE, -1, 0, 1, 1L << 20};

    private final Map<String, Method> ofClass = new HashMap<>();
    private final Map<String, Method> ofModel = new HashMap<>();
    private long seed;
    private PartnerWorth x;
    private Model model;
    private final List<String> run = new ArrayList<>();
    private int wrong = 0;
    private long right = 0;

    public static void main(String[] args) throws Exception {
        ModelTest test = new ModelTest();
        int runs = args.length > 2 ? Integer.parseInt(args[2]) : 1200;
        for (int k = 0; k < runs && test.wrong < 5; k++) {
            test.oneRun(k);
        }
        System.out.println(test.right + " answers are as the model's, " + test.wrong + " are not");
        if (test.wrong != 0 || test.right == 0) {
            System.exit(1);
        }
    }

    private ModelTest() {
        for (Method m : PartnerWorth.class.getMethods()) {
            ofClass.put(m.getName() + m.getParameterCount(), m);
        }
        for (Method m : Model.class.getMethods()) {
            ofModel.put(m.getName() + m.getParameterCount(), m);
        }
    }

    // A generator of its own, so that each run is the same on every machine.
    private int pick(int bound) {
        seed = seed * 6364136223846793005L + 1442695040888963407L;
        return (int) ((seed >>> 33) % bound);
    }

    private void oneRun(int number) throws Exception {
        seed = 77 + 1000003L * number;
        x = new PartnerWorth();
        model = new Model();
        run.clear();
        int n = number % 12 == 0 ? 6 + pick(4) : 1 + pick(5);
        call("partners", n);
        prepare();
        int length = n > 5 ? 60 : 200;
        for (int k = 0; k < length && wrong < 5; k++) {
            if (pick(12) == 0) {
                text();
            } else if (pick(12) == 0) {
                order();
            } else if (pick(25) == 0) {
                compareAll();
            } else {
                anyCall();
            }
        }
        compareAll();
    }

    private void prepare() throws Exception {
        if (pick(2) == 0) {
            for (int set = 1; set < 1 << model.told(0); set++) {
                call("value", pick(2), set, smallValue());
            }
        }
        if (pick(2) == 0) {
            int scale = pick(2) == 0 ? 4 : 1001;
            for (int p = 0; p < model.told(0); p++) {
                call("weight", p, pick(scale));
            }
            call("quota", 0, pick(Math.min(10000, 2 + model.told(0) * scale)));
        }
        if (pick(3) == 0) {
            int most = 58 + pick(4);
            for (int k = 0; k < most; k++) {
                call("add", 0, 0);
            }
        }
    }

    private void anyCall() throws Exception {
        String[] told = CALLS[pick(CALLS.length)].split(" ");
        String kinds = told.length > 1 ? told[1] : "";
        if (told[0].equals("partners") && pick(5) != 0 || told[0].equals("is") && model.told(0) > 7 && pick(4) != 0) {
            return;
        }
        long[] args = new long[kinds.length()];
        for (int k = 0; k < args.length; k++) {
            boolean extreme = pick(60) == 0 && kinds.charAt(k) != 'n';
            args[k] = extreme ? EXTREMES[pick(EXTREMES.length)] : number(kinds.charAt(k));
        }
        call(told[0], args);
        if (told[0].equals("times") && pick(2) == 0) {
            call(told[0], args);
        }
    }

    private long number(char kind) {
        int n = model.told(0);
        switch (kind) {
            case 'n': return pick(20) == 0 ? pick(14) - 2 : 1 + pick(5);
            case 'g': return pick(25) == 0 ? pick(7) - 2 : pick(3) * pick(2);
            case 's': return pick(25) == 0 ? pick(2 << n) - 3 : pick(1 << n);
            case 'v': return anyValue();
            case 'p': return pick(15) == 0 ? pick(12) - 2 : pick(n);
            case 'k': return pick(15) == 0 ? pick(12) - 2 : pick(n);
            case 'w': return pick(8) == 0 ? pick(1300) - 100 : pick(5);
            case 'h': return pick(7) - 1;
            case 'd': return pick(20) == 0 ? pick(5) - 2 : pick(2);
            case 'q': return pick(5) == 0 ? pick(12000) - 1000 : pick(2 + 3 * n);
            case 'e': return pick(5) == 0 ? pick(24000) - 12000 : pick(5) - 2;
            case 'l': return pick(3) == 0 ? pick(140) - 5 : "abcd=-;0123".charAt(pick(11));
            case 'c': return pick(3) == 0 ? pick(2100) - 1050 : pick(7) - 3;
            case 'r': return pick(15) == 0 ? pick(8) - 2 : pick(3);
            case 'i': return pick(4) == 0 ? pick(26) - 3 : pick(4);
            case 'y': return pick(10) == 0 ? pick(30) - 5 : n + pick(6);
            case 'o': return pick(40) - 2;
            case 't': return pick(24) - 2;
            default: throw new IllegalStateException("no kind " + kind);
        }
    }

    private long smallValue() {
        return pick(15) - 5;
    }

    private long anyValue() {
        switch (pick(8)) {
            case 0: return 1000000000000L;
            case 1: return -1000000000000L - pick(2);
            case 2: return (seed >> 3) / (1 + pick(1000000));
            case 3: return pick(2) == 0 ? Long.MAX_VALUE - pick(4) : Long.MIN_VALUE + pick(4);
            default: return smallValue();
        }
    }

    /** A text on the tape that is mostly one of values, read. */
    private void text() throws Exception {
        call("clear");
        int parts = 1 + pick(4);
        StringBuilder text = new StringBuilder();
        for (int k = 0; k < parts; k++) {
            text.append(k == 0 ? "" : ";");
            int set = 1 + pick((1 << model.told(0)) - 1);
            for (int p = 0; p < 9; p++) {
                text.append((set >> p & 1) == 1 ? String.valueOf((char) ('a' + p)) : "");
            }
            text.append(pick(3) == 0 ? "=-" : "=").append(pick(5) == 0 ? pick(1000000000) : pick(20));
        }
        if (pick(2) == 0) {
            text.setCharAt(pick(text.length()), "abci=-;09 A".charAt(pick(11)));
        }
        if (pick(6) == 0) {
            text.setLength(pick(text.length()));
        }
        if (pick(6) == 0) {
            text.insert(pick(text.length() + 1), "abci=-;09 A".charAt(pick(11)));
        }
        for (int k = 0; k < text.length(); k++) {
            call("feed", text.charAt(k));
        }
        call("read", pick(2));
    }

    /** A row with an order of all, or shares, asked for in many ways. */
    private void order() throws Exception {
        int n = model.told(0);
        int at = pick(3);
        call("row", 1, n + at + pick(2));
        List<Integer> left = new ArrayList<>();
        for (int p = 0; p < n; p++) {
            left.add(p);
        }
        for (int k = 0; k < n; k++) {
            call("set", 1, at + k, left.remove(pick(left.size())));
        }
        if (pick(6) == 0) {
            call("set", 1, at + pick(n), pick(n));
        }
        call("pivot", 1, at);
        for (int k = 0; k < n; k++) {
            call("adds", pick(2), 1, at, k);
        }
        if (pick(2) == 0) {
            call("lay", 1, at, 0);
            call("set", 1, at, model.get(1, at) + pick(3) - 1);
        }
        call("stable", 0, 1, at);
        call("worst", 0, 1, at);
        call("excess", 0, 1, at, pick(1 << n));
    }

    private void compareAll() throws Exception {
        int n = model.told(0);
        for (int what = -1; what < 20; what++) {
            call("told", what);
        }
        for (int g = 0; g < 4; g++) {
            for (int set = 0; set < 1 << n; set++) {
                call("valueOf", g, set);
            }
        }
        for (int a = 0; a < n; a++) {
            call("union", a);
            for (int b = 0; b < n; b++) {
                call("worth", a, b);
            }
        }
        for (int row = 0; row < 4; row++) {
            for (int i = -1; i <= 20; i++) {
                call("get", row, i);
            }
        }
        for (int i = 0; i <= model.told(6); i++) {
            call("paper", i);
        }
    }

    private void call(String name, long... args) throws Exception {
        Method here = ofClass.get(name + args.length);
        Class<?>[] types = here.getParameterTypes();
        Object[] given = new Object[args.length];
        for (int k = 0; k < args.length; k++) {
            if (types[k] == int.class) {
                given[k] = (int) args[k];
            } else {
                given[k] = args[k];
            }
        }
        run.add(name + Arrays.toString(given));
        Object want = ofModel.get(name + args.length).invoke(model, given);
        Object got;
        try {
            got = here.invoke(x, given);
        } catch (InvocationTargetException e) {
            got = e.getCause();
        }
        if (want.equals(got)) {
            right++;
            return;
        }
        wrong++;
        System.out.println(run.get(run.size() - 1) + " answered " + got + ", the model " + want + "; the run: " + run);
    }
}
