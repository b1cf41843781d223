/** Promise 5: holds. */
public final class HoldingTest {
    private static final Answers ANSWERS = new Answers();

    public static void main(String[] args) {
        leaves();
        others();
        noPolicy();
        ANSWERS.end();
    }

    private static void holds(boolean want, String text, int... facts) {
        PolicyForge x = Answers.forgeOf(text);
        ANSWERS.due(text + " holds " + java.util.Arrays.toString(facts), want,
            x.holds(facts[0], facts[1], facts[2], facts[3]));
    }

    private static void leaves() {
        for (int key = 0; key < 8; key++) {
            String text = "key(" + (char) ('A' + key) + ")";
            holds(true, text, 1 << key, 0, 0, 0);
            holds(false, text, ~(1 << key), -1, 999, 999);
        }
        for (int secret = 0; secret < 10; secret++) {
            holds(true, "hash(" + secret + ")", 0, 1 << secret, 0, 0);
            holds(false, "hash(" + secret + ")", -1, ~(1 << secret), 999, 999);
        }
        holds(true, "after(50)", 0, 0, 50, 0);
        holds(true, "after(50)", 0, 0, Integer.MAX_VALUE, 0);
        holds(false, "after(50)", -1, -1, 49, 999);
        holds(false, "after(1)", 0, 0, Integer.MIN_VALUE, 0);
        holds(true, "older(007)", 0, 0, 0, 7);
        holds(false, "older(007)", -1, -1, 999, 6);
        holds(false, "older(999)", 0, 0, 999, 998);
    }

    private static void others() {
        for (int keys = 0; keys < 16; keys++) {
            boolean a = (keys & 1) != 0;
            boolean b = (keys & 2) != 0;
            int held = Integer.bitCount(keys);
            holds(a && b, "and(key(A),key(B))", keys, 0, 0, 0);
            holds(a || b, "or(key(A),key(B))", keys, 0, 0, 0);
            for (int k = 1; k <= 4; k++) {
                holds(held >= k, "thr(" + k + ",key(A),key(B),key(C),key(D))", keys, 0, 0, 0);
            }
            holds(a && (keys & 12) != 0, "and(or(key(C),key(D)),key(A))", keys, 0, 0, 0);
        }
        holds(true, "thr(2,key(A),and(hash(1),after(5)),older(9))", 0, 2, 5, 9);
        holds(false, "thr(2,key(A),and(hash(1),after(5)),older(9))", 0, 2, 4, 9);
        holds(true, "thr(2,key(A),and(hash(1),after(5)),older(9))", 1, 0, 4, 9);
    }

    private static void noPolicy() {
        PolicyForge x = Answers.forgeOf("key(A)");
        ANSWERS.due("it holds", true, x.holds(1, 0, 0, 0));
        ANSWERS.due("a fault", Answers.BAD_ARGUMENT, Answers.read(x, "key(A"));
        ANSWERS.dueOf("holds without one", Answers.NOTHING_THERE,
            () -> x.holds(1, 0, 0, 0) ? 1 : 0);
    }
}
