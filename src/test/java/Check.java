/** Counts the answers that are as due, and prints each that is not. */
final class Check {
    private static int right = 0;
    private static int wrong = 0;

    private Check() {
    }

    static void due(String call, long got, long want) {
        if (got == want) {
            right++;
        } else {
            wrong++;
            System.out.println(call + " answered " + got + ", due is " + want);
        }
    }

    /** What the calls of one kind answer, in turn. */
    static void due(String calls, long[] got, long... want) {
        due(calls + ": how many", got.length, want.length);
        for (int k = 0; k < got.length && k < want.length; k++) {
            due(calls + " at " + k, got[k], want[k]);
        }
    }

    static PartnerWorth of(int n) {
        PartnerWorth x = new PartnerWorth();
        due("partners(" + n + ")", x.partners(n), n);
        return x;
    }

    /** An object with a value for each set but the empty one, in their order. */
    static PartnerWorth of(int n, long... values) {
        PartnerWorth x = of(n);
        for (int set = 1; set <= values.length; set++) {
            due("value(0, " + set + ")", x.value(0, set, values[set - 1]), 1);
        }
        return x;
    }

    static int read(PartnerWorth x, int game, String text) {
        x.clear();
        for (int k = 0; k < text.length(); k++) {
            due("feed of " + text, x.feed(text.charAt(k)), k + 1);
        }
        return x.read(game);
    }

    static void weigh(PartnerWorth x, int quota, int... weights) {
        x.quota(0, quota);
        for (int p = 0; p < weights.length; p++) {
            x.weight(p, weights[p]);
        }
    }

    /** A row that holds just these longs. */
    static void tell(PartnerWorth x, int row, long... longs) {
        due("row(" + row + ")", x.row(row, longs.length), 1);
        for (int i = 0; i < longs.length; i++) {
            due("set(" + row + ", " + i + ")", x.set(row, i, longs[i]), 1);
        }
    }

    static long[] values(PartnerWorth x, int game) {
        long[] found = new long[1 << x.told(0)];
        for (int set = 0; set < found.length; set++) {
            found[set] = x.valueOf(game, set);
        }
        return found;
    }

    static String paper(PartnerWorth x) {
        StringBuilder text = new StringBuilder();
        for (int i = 0; i < x.told(6); i++) {
            text.append((char) x.paper(i));
        }
        return text.toString();
    }

    static void dueText(String call, String got, String want) {
        due(call + " '" + got + "' '" + want + "'", got.equals(want) ? 1 : 0, 1);
    }

    /** Makes a value that no call can tell at once: the told one by 2 to the k. */
    static void doubled(PartnerWorth x, int game, int k) {
        for (int turn = 0; turn < k; turn++) {
            due("add(" + game + ", itself)", x.add(game, game), 1);
        }
    }

    static void end() {
        System.out.println(right + " answers are as due, " + wrong + " are not");
        if (wrong != 0 || right == 0) {
            System.exit(1);
        }
    }
}
