/** The sentences under "Terms" on witnesses: what dissatisfies, and which one is the lightest. */
public final class LightestBoundsTest {
    private static final Answers ANSWERS = new Answers();
    private static final int ALL = -1;

    public static void main(String[] args) {
        weights();
        oneSatisfied();
        unless();
        exactlyK();
        dissatisfied();
        leastWeight();
        lesserItem();
        endsSooner();
        accepted();
        ANSWERS.end();
    }

    /** With the keys and secrets that are told, at no height and no age. */
    private static void lightest(String text, int keys, int secrets, int weight, int... items) {
        PolicyForge x = Answers.forgeOf(text);
        String what = text + " with " + keys + ", " + secrets;
        ANSWERS.due(what + " satisfy", weight, x.satisfy(keys, secrets, 0, 0));
        ANSWERS.dueSame(what + " items", Answers.list(items), Answers.itemsOf(x));
        ANSWERS.due(what + " check", -1, x.check(0, 0));
    }

    private static void weights() {
        ANSWERS.sentence("0 EMPTY and 1 ONE (weight 1), 10 + K a signature (9), "
            + "20 + d a secret (5)");
        for (int key = 0; key < 8; key++) {
            lightest("key(" + (char) ('A' + key) + ")", 1 << key, 0, 9, 10 + key);
        }
        for (int secret = 0; secret < 10; secret++) {
            lightest("hash(" + secret + ")", 0, 1 << secret, 5, 20 + secret);
        }
        lightest("or(key(A),key(B))", 2, 0, 10, 0, 11);
        lightest("or(hash(1),hash(2))", 0, 2, 6, 1, 21);
        PolicyForge x = Answers.forgeOf("and(after(1),older(1))");
        ANSWERS.due("no item weighs nothing", 0, x.satisfy(0, 0, 1, 1));
        ANSWERS.dueSame("no item", Answers.list(), Answers.itemsOf(x));
    }

    private static void oneSatisfied() {
        ANSWERS.sentence("D(X) ASIDE D(Y) BACK OR: one satisfied, the other dissatisfied");
        String text = "thr(1,or(key(A),key(B)),key(H))";
        lightest(text, 1, 0, 11, 10, 0, 0);
        lightest(text, 2, 0, 11, 0, 11, 0);
        lightest(text, 3, 0, 11, 0, 11, 0);
    }

    private static void unless() {
        ANSWERS.sentence("D(X) TWICE UNLESS, D(X) UNLESS: X satisfied, or X dissatisfied and Y "
            + "satisfied");
        lightest("or(key(A),key(B))", 1, 0, 9, 10);
        lightest("or(key(A),key(B))", 2, 0, 10, 0, 11);
        lightest("or(key(A),key(B))", 3, 0, 9, 10);
        lightest("and(or(key(A),key(B)),key(C))", 5, 0, 18, 10, 12);
        lightest("and(or(key(A),key(B)),key(C))", 6, 0, 19, 0, 11, 12);
        lightest("and(or(key(A),key(B)),key(C))", 7, 0, 18, 10, 12);
    }

    private static void exactlyK() {
        ANSWERS.sentence("thr: k satisfied, the others dissatisfied (by ASIDE .. ADD ways)");
        lightest("thr(1,key(A),key(B),key(C),key(D))", ALL, 0, 12, 0, 0, 0, 13);
        lightest("thr(2,key(A),key(B),key(C),key(D))", ALL, 0, 20, 0, 0, 12, 13);
        lightest("thr(3,key(A),key(B),key(C),key(D))", ALL, 0, 28, 0, 11, 12, 13);
        lightest("thr(4,key(A),key(B),key(C),key(D))", ALL, 0, 36, 10, 11, 12, 13);
        lightest("thr(2,key(A),hash(1),key(B),hash(2))", ALL, ALL, 14, 0, 1, 21, 0, 1, 22);
    }

    private static void dissatisfied() {
        ANSWERS.sentence("Dissatisfied: KEY by EMPTY");
        lightest("thr(1,key(A),key(H))", 128, 0, 10, 0, 17);
        ANSWERS.sentence("IF D(X) ELSE B(Y) by ONE and X dissatisfied");
        lightest("thr(1,or(key(A),hash(5)),key(H))", 128, 0, 11, 1, 0, 17);
        ANSWERS.sentence("IF B(X) ELSE D(Y) by EMPTY and Y");
        lightest("thr(1,or(hash(5),key(A)),key(H))", 128, 0, 11, 0, 0, 17);
        ANSWERS.sentence("the last way by EMPTY");
        lightest("thr(1,hash(5),key(H))", 128, 0, 10, 0, 17);
        lightest("thr(1,and(hash(5),hash(6)),key(H))", 128, 0, 10, 0, 17);
        ANSWERS.sentence("the other D by all parts dissatisfied");
        lightest("thr(1,and(key(A),key(B)),key(H))", 128, 0, 11, 0, 0, 17);
        lightest("thr(1,or(key(A),key(B)),key(H))", 128, 0, 11, 0, 0, 17);
        lightest("thr(1,thr(2,key(A),key(B),key(C)),key(H))", 128, 0, 12, 0, 0, 0, 17);
        lightest("thr(1,or(thr(2,key(A),key(B),key(C)),key(D)),key(H))", 128, 0, 13,
            0, 0, 0, 0, 17);
    }

    private static void leastWeight() {
        ANSWERS.sentence("The LIGHTEST witness, for sets and times, is the one of the least "
            + "weight");
        // What is less in the first item is heavier.
        lightest("or(key(A),key(B))", 3, 0, 9, 10);
        lightest("or(or(hash(0),hash(1)),hash(2))", 0, 7, 6, 0, 22);
        lightest("or(hash(2),or(hash(0),hash(1)))", 0, 7, 6, 1, 22);
        // The longer one is the lighter.
        lightest("or(key(A),or(or(hash(0),hash(1)),hash(2)))", 1, 1, 8, 0, 1, 1, 20);
        lightest("thr(1,key(A),hash(1))", 1, 2, 7, 0, 1, 21);
    }

    private static void lesserItem() {
        ANSWERS.sentence("of equal ones that which is the lesser one where they differ first "
            + "(items as numbers, from the top");
        lightest("or(hash(1),hash(2))", 0, 6, 6, 0, 22);
        lightest("or(hash(2),hash(1))", 0, 6, 6, 0, 21);
        lightest("or(or(hash(5),hash(4)),or(hash(3),hash(2)))", 0, 60, 7, 0, 0, 22);
        lightest("or(or(hash(5),hash(4)),or(hash(3),hash(2)))", 0, 56, 7, 0, 1, 23);
        lightest("or(or(hash(5),hash(4)),or(hash(3),hash(2)))", 0, 48, 7, 1, 0, 24);
        lightest("thr(1,key(A),key(B))", 3, 0, 10, 0, 11);
        lightest("thr(2,key(C),key(B),key(A))", 7, 0, 19, 0, 11, 10);
        // They differ in the second item first.
        lightest("and(key(H),thr(1,key(A),key(B)))", ALL, 0, 19, 17, 0, 11);
        // A signature weighs as much as EMPTY, three ONE and a secret.
        String deep = "or(key(A),or(or(or(hash(0),hash(1)),hash(2)),hash(3)))";
        lightest(deep, 1, 1, 9, 0, 1, 1, 1, 20);
        lightest(deep, 1, 3, 9, 0, 1, 1, 0, 21);
        lightest("and(key(H)," + deep + ")", 129, 1, 18, 0, 1, 1, 1, 20, 17);
        PolicyForge x = Answers.forgeOf("or(after(1),older(1))");
        ANSWERS.due("both times", 1, x.satisfy(0, 0, 1, 1));
        ANSWERS.dueSame("both times", Answers.list(0), Answers.itemsOf(x));
    }

    /** Every item weighs something, so one that ends sooner is the lighter too. */
    private static void endsSooner() {
        ANSWERS.sentence("one that ends sooner is less");
        PolicyForge x = Answers.forgeOf("or(key(A),or(after(1),hash(3)))");
        ANSWERS.due("by time alone", 2, x.satisfy(1, 8, 1, 0));
        ANSWERS.dueSame("by time alone", Answers.list(0, 1), Answers.itemsOf(x));
        ANSWERS.due("by the secret", 7, x.satisfy(1, 8, 0, 0));
        ANSWERS.dueSame("by the secret", Answers.list(0, 0, 23), Answers.itemsOf(x));
        PolicyForge same = Answers.forgeOf("or(hash(1),hash(1))");
        ANSWERS.due("the same secret", 6, same.satisfy(0, 2, 0, 0));
        ANSWERS.dueSame("the same secret", Answers.list(0, 21), Answers.itemsOf(same));
    }

    private static void accepted() {
        ANSWERS.sentence("A witness is ACCEPTED if nothing fails");
        String fullest = "thr(2,thr(3,hash(0),hash(1),hash(2),hash(3)),"
            + "thr(3,hash(4),hash(5),hash(6),hash(7)),hash(8),hash(9))";
        lightest(fullest, 0, ALL, 20, 0, 0, 0, 0, 0, 0, 0, 0, 1, 28, 1, 29);
        lightest(fullest, 0, 0x77, 40,
            1, 20, 1, 21, 1, 22, 0, 1, 24, 1, 25, 1, 26, 0, 0, 0);
        lightest(fullest, 0, 0x1ee, 30, 0, 0, 0, 0, 0, 1, 25, 1, 26, 1, 27, 1, 28, 0);
    }
}
