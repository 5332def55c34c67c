import java.util.ArrayList;
import java.util.List;

/**
 * Tests by sentences: each answer that is looked at stands for a sentence of the document, which is quoted ahead of
 * it by its own words, with the promise that it belongs to.
 */
abstract class Bound {
    static final long NO = PartnerWorth.NO;
    static final long NONE = -1;
    static final long BAD = -2;
    static final long STATE = -3;
    static final long FULL = -4;
    static final long NO_SUCH = -5;
    static final long OVER = -6;
    static final long NOTHING = -11;
    static final long BEYOND = -13;
    static final long BELOW = -14;
    static final long UNIT = 1L << 60;

    /** Numbers that are none of games or rows; of partners, of sets, where there are three partners. */
    static final String[] WRONG_GAMES = {"-1", "4", "5", "IMIN", "IMAX"};
    static final String[] WRONG_ROWS = {"-1", "4", "5", "IMIN", "IMAX"};
    static final String[] WRONG_PARTNERS = {"-1", "3", "8", "9", "31", "32", "33", "64", "IMIN", "IMAX"};
    static final String[] WRONG_SETS = {"-1", "-8", "8", "9", "15", "511", "512", "IMIN", "IMAX"};
    static final String[] WRONG_PARTS = {"-1", "2", "IMIN", "IMAX"};
    /** The example of three partners: the values of its sets in their order. */
    static final long[] EXAMPLE = {1, 2, 6, 3, 7, 9, 20};

    private static Doc doc;
    private static String sentence = "";
    private static boolean looked = true;
    private static Stage stage;
    private static final List<String> told = new ArrayList<>();
    private static List<String> before;

    static void open(Doc document) {
        doc = document;
    }

    // ---- the sentence that the next answers stand for

    static void promise(int number, String words) {
        stand("Promise " + number, "promise " + number, words);
    }

    /** A sentence of the terms, or of the answers below them, as it is met in the calls of a promise. */
    static void term(int number, String words) {
        stand(Doc.TERMS, "promise " + number + ", terms", words);
    }

    static void limit(String words) {
        stand(Doc.LIMITS, "what it is", words);
    }

    private static void stand(String section, String name, String words) {
        close();
        boolean said = doc == null || doc.quote(section, words);
        Check.due(name + ": the document says '" + words + "'", said ? 1 : 0, 1);
        sentence = name + " '" + words + "': ";
        looked = false;
    }

    static void close() {
        Check.due(sentence + "something is looked at", looked ? 1 : 0, 1);
    }

    // ---- calls

    static void fresh() {
        stage = new Stage();
        told.clear();
        before = null;
    }

    static void start(int n) {
        fresh();
        given("partners(" + n + ")");
    }

    /** A new object with a value in game 0 for each set but the empty one, in their order. */
    static void start(int n, long... values) {
        start(n);
        values(0, values);
    }

    static void values(int game, long... values) {
        for (int set = 1; set <= values.length; set++) {
            given("value(" + game + ", " + set + ", " + values[set - 1] + ")");
        }
    }

    /** Calls that bring the object where the sentence wants it; none of them may be refused. */
    static void given(String... calls) {
        for (String call : calls) {
            Check.due(sentence + "given " + call + " is not refused", make(call) >= 0 ? 1 : 0, 1);
        }
    }

    private static long make(String call) {
        told.add(call);
        before = null;
        return stage.call(call);
    }

    static void does(String call, long want) {
        looked = true;
        Check.due(sentence + call, make(call), want);
    }

    /** A call that is refused or that only asks: all that can be seen of the object is as it was. */
    static void leaves(String call, long want) {
        looked = true;
        Check.due(sentence + call, stage.call(call), want);
        if (before == null) {
            before = Stage.whole(told);
        }
        List<String> with = new ArrayList<>(told);
        with.add(call);
        List<String> after = Stage.whole(with);
        Check.due(sentence + call + " changes what is seen: how much", after.size(), before.size());
        for (int k = 0; k < Math.min(after.size(), before.size()); k++) {
            boolean same = after.get(k).equals(before.get(k));
            String words = same ? "" : ", which was: " + before.get(k) + ", to: " + after.get(k);
            Check.due(sentence + call + " changes nothing" + words, same ? 1 : 0, 1);
        }
    }

    /** The same call with each of these numbers for its #. */
    static void leavesEach(String call, long want, String... numbers) {
        for (String number : numbers) {
            leaves(call.replace("#", number), want);
        }
    }

    // ---- what is seen

    static void holds(int game, long... values) {
        looked = true;
        for (int set = 0; set < values.length; set++) {
            String call = "valueOf(" + game + ", " + set + ")";
            Check.due(sentence + call, stage.call(call), values[set]);
        }
    }

    static void rowHolds(int row, long... longs) {
        looked = true;
        for (int i = 0; i < longs.length; i++) {
            String call = "get(" + row + ", " + i + ")";
            Check.due(sentence + call, stage.call(call), longs[i]);
        }
    }

    static void paperHolds(String text) {
        looked = true;
        Check.due(sentence + "told(6)", stage.call("told(6)"), text.length());
        for (int i = 0; i < text.length(); i++) {
            Check.due(sentence + "paper(" + i + ") of " + text, stage.call("paper(" + i + ")"), text.charAt(i));
        }
    }

    // ---- runs of calls

    static void feed(String text) {
        for (char letter : text.toCharArray()) {
            given("feed(" + (int) letter + ")");
        }
    }

    /** A text on the tape, read as values of a game. */
    static void reads(int game, String text, long want) {
        feed(text);
        does("read(" + game + ")", want);
    }

    static void tell(int row, long... longs) {
        given("row(" + row + ", " + longs.length + ")");
        for (int i = 0; i < longs.length; i++) {
            given("set(" + row + ", " + i + ", " + longs[i] + ")");
        }
    }

    static void weigh(int quota, int... weights) {
        given("quota(0, " + quota + ")");
        for (int p = 0; p < weights.length; p++) {
            given("weight(" + p + ", " + weights[p] + ")");
        }
    }

    static void doubled(int game, int times) {
        for (int k = 0; k < times; k++) {
            given("add(" + game + ", " + game + ")");
        }
    }

    /** A new object with values that no call can tell at once: these by 2 to the 60. */
    static void startLarge(int n, long... values) {
        start(n, values);
        doubled(0, 60);
    }

    /** The value of a set becomes the greatest long, those of all others 0; game 3 is used for it. */
    static void greatest(int game, int set) {
        least(game, set);
        given("value(3, " + set + ", 1)", "add(" + game + ", 3)", "times(" + game + ", -1)");
    }

    /** The value of a set becomes the least long, those of all others 0. */
    static void least(int game, int set) {
        given("value(" + game + ", " + set + ", -1)");
        doubled(game, 63);
    }

    /** Three partners and something of all that an object can hold, so that any change would be seen. */
    static void rich() {
        start(3, EXAMPLE);
        values(1, 0, 0, 0, 0, 0, 0, -5);
        values(2, 4, 4, 4, 4, 4, 4, 5);
        values(3, 8);
        weigh(9, 4, 5, 6);
        given("quota(1, 8)", "edge(0, 2, 9)", "unite(2, 1)", "image()");
        given("value(3, 2, 1)", "weight(0, 2)", "quota(1, 7)", "edge(0, 1, -3)", "spell(0)");
        tell(0, 2, 0, 1);
        tell(1, 9, 5, 7, 8, 1);
        given("row(2, 0)");
        feed("ac=5");
    }
}
