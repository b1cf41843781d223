import java.util.ArrayList;
import java.util.List;

/** The sentences under "Terms" that bound ways, words, and what is accepted. */
public final class ScriptBoundsTest {
    private static final Answers ANSWERS = new Answers();
    private static final int ACCEPTED = -1;
    private static final int[] ITEMS = {0, 1, 10, 11, 12, 13, 14, 15, 16, 17,
        20, 21, 22, 23, 24, 25, 26, 27, 28, 29};

    public static void main(String[] args) {
        keyTakes();
        hashTakes();
        timesFail();
        verifyFails();
        andOrPut();
        addAndSame();
        ifTakes();
        elseGoesOn();
        unlessGoesOn();
        zeroPuts();
        emptyStack();
        oneAlone();
        fewestWords();
        leastWeight();
        firstOfB();
        firstOfD();
        firstOfV();
        ANSWERS.end();
    }

    private static void check(String text, int answer, int done, int... items) {
        checkAt(text, 0, 0, answer, done, items);
    }

    private static void checkAt(String text, int height, int age, int answer, int done,
                                int... items) {
        PolicyForge x = Answers.forgeOf(text);
        for (int item : items) {
            x.put(item);
        }
        String what = text + " with " + Answers.list(items);
        ANSWERS.due(what + " check", answer, x.check(height, age));
        ANSWERS.due(what + " done", done, x.done());
    }

    private static void keyTakes() {
        ANSWERS.sentence("takes an item: puts 1 if it is this key's SIGNATURE, 0 if it is EMPTY, "
            + "else fails");
        for (int key = 0; key < 8; key++) {
            for (int item : ITEMS) {
                int answer = item == 10 + key ? ACCEPTED : item == 0 ? 1 : 0;
                check("key(" + (char) ('A' + key) + ")", answer, 1, item);
            }
        }
    }

    private static void hashTakes() {
        ANSWERS.sentence("HASH d takes an item: puts 1 if it is the SECRET of d, else 0");
        for (int secret = 0; secret < 10; secret++) {
            for (int item : ITEMS) {
                check("hash(" + secret + ")", item == 20 + secret ? ACCEPTED : 1, 1, item);
            }
        }
    }

    private static void timesFail() {
        ANSWERS.sentence("AFTER n, OLDER n: fail if the height, the age is less than n, put 1");
        int least = Integer.MIN_VALUE;
        int greatest = Integer.MAX_VALUE;
        for (int n : new int[] {1, 7, 999}) {
            for (int time : new int[] {least, -1, 0, n - 1, n, n + 1, greatest}) {
                int answer = time < n ? 0 : ACCEPTED;
                checkAt("after(" + n + ")", time, least, answer, 1);
                checkAt("after(" + n + ")", time, greatest, answer, 1);
                checkAt("older(" + n + ")", least, time, answer, 1);
                checkAt("older(" + n + ")", greatest, time, answer, 1);
            }
        }
    }

    private static void verifyFails() {
        ANSWERS.sentence("VERIFY takes, fails if it was 0");
        check("and(key(A),key(B))", ACCEPTED, 3, 10, 11);
        check("and(key(A),key(B))", 1, 2, 0, 11);
        for (int item : ITEMS) {
            boolean good = item == 23;
            check("and(hash(3),key(B))", good ? ACCEPTED : 1, good ? 3 : 2, item, 11);
        }
    }

    private static void andOrPut() {
        ANSWERS.sentence("AND, OR 1 or 0");
        for (int a : new int[] {0, 10}) {
            for (int b : new int[] {0, 11}) {
                boolean both = a != 0 && b != 0;
                boolean any = a != 0 || b != 0;
                check("thr(1,and(key(A),key(B)),key(C))", both ? ACCEPTED : 10, 10, a, b, 0);
                check("thr(1,and(key(A),key(B)),key(C))", both ? 10 : ACCEPTED, 10, a, b, 12);
                check("thr(1,or(key(A),key(B)),key(C))", any ? ACCEPTED : 10, 10, a, b, 0);
                check("thr(1,or(key(A),key(B)),key(C))", any ? 10 : ACCEPTED, 10, a, b, 12);
            }
        }
    }

    private static void addAndSame() {
        ANSWERS.sentence("SAME n takes: puts 1 if it was n, else 0");
        for (int k = 1; k <= 3; k++) {
            for (int keys = 0; keys < 16; keys++) {
                check("thr(" + k + ",key(A),key(B),key(C),key(D))",
                    Integer.bitCount(keys) == k ? ACCEPTED : 14, 14,
                    10 * (keys & 1), 11 * (keys >> 1 & 1), 12 * (keys >> 2 & 1), 13 * (keys >> 3));
            }
        }
    }

    private static void ifTakes() {
        ANSWERS.sentence("IF takes ONE (goes on) or EMPTY (goes on behind its ELSE), else fails");
        for (int item : ITEMS) {
            boolean taken = item == 0 || item == 1;
            check("or(hash(1),hash(2))", item == 1 ? ACCEPTED : taken ? 5 : 0, taken ? 3 : 1,
                item, 21);
            check("or(hash(1),hash(2))", item == 0 ? ACCEPTED : taken ? 5 : 0, taken ? 3 : 1,
                item, 22);
        }
    }

    private static void elseGoesOn() {
        ANSWERS.sentence("ELSE (goes on behind its END)");
        String nested = "or(or(hash(1),hash(2)),or(hash(3),hash(4)))";
        check(nested, ACCEPTED, 5, 1, 1, 21);
        check(nested, ACCEPTED, 5, 1, 0, 22);
        check(nested, ACCEPTED, 5, 0, 1, 23);
        check(nested, ACCEPTED, 5, 0, 0, 24);
        check(nested, 1, 2, 1, 10);
        check(nested, 7, 2, 0, 10);
    }

    private static void unlessGoesOn() {
        ANSWERS.sentence("UNLESS takes: if it was not 0 goes on behind its END");
        check("or(key(A),key(B))", ACCEPTED, 3, 10);
        check("or(key(A),key(B))", ACCEPTED, 5, 0, 11);
        check("or(key(A),key(B))", 5, 5, 0, 0);
        check("or(key(A),or(key(B),key(C)))", ACCEPTED, 3, 10);
        check("or(key(A),or(key(B),key(C)))", ACCEPTED, 7, 0, 11);
        check("or(key(A),or(key(B),key(C)))", ACCEPTED, 9, 0, 0, 12);
        check("and(or(key(A),key(B)),key(C))", ACCEPTED, 3, 10, 12);
        check("and(or(key(A),key(B)),key(C))", ACCEPTED, 6, 0, 11, 12);
        check("and(or(key(A),key(B)),key(C))", 3, 4, 0, 0, 12);
    }

    private static void zeroPuts() {
        ANSWERS.sentence("ZERO puts 0");
        check("thr(1,hash(4),key(H))", ACCEPTED, 8, 0, 17);
        check("thr(1,hash(4),key(H))", 10, 8, 0, 0);
        check("thr(1,hash(4),key(H))", ACCEPTED, 8, 1, 24, 0);
    }

    private static void emptyStack() {
        ANSWERS.sentence("(taking from an empty stack does)");
        check("key(A)", 0, 1);
        check("hash(0)", 0, 1);
        check("or(hash(1),hash(2))", 0, 1);
        check("or(hash(1),hash(2))", 1, 2, 1);
        check("or(hash(1),hash(2))", 3, 2, 0);
        check("or(key(A),key(B))", 3, 4, 0);
        check("and(key(A),key(B))", 2, 3, 10);
        check("thr(1,key(A),hash(1))", 2, 3, 10);
        check("thr(1,key(A),hash(1))", 3, 4, 10, 1);
        check("thr(1,key(A),hash(1))", ACCEPTED, 8, 10, 0);
        checkAt("and(after(1),key(A))", 1, 0, 2, 3);
        checkAt("after(1)", 1, 0, ACCEPTED, 1);
    }

    private static void oneAlone() {
        ANSWERS.sentence("and 1 alone is there at the end");
        check("key(A)", 1, 1, 0);
        check("hash(0)", 1, 1, 0);
        for (int item : ITEMS) {
            check("key(A)", 1, 1, 10, item);
            check("and(key(A),key(B))", 3, 3, 10, 11, item);
            check("or(key(A),key(B))", 5, 3, 10, item);
            check("thr(1,key(A),key(B))", 6, 6, 10, 0, item);
            checkAt("after(1)", 1, 1, 1, 1, item);
        }
        int[] full = new int[24];
        full[0] = 10;
        check("key(A)", 1, 1, full);
    }

    private static void script(String text, String words) {
        List<Integer> due = new ArrayList<>();
        for (String word : words.split(" ")) {
            due.add(Oracle.word(word));
        }
        ANSWERS.dueSame("script of " + text, due, Answers.wordsOf(Answers.forgeOf(text)));
    }

    private static void fewestWords() {
        ANSWERS.sentence("with the fewest words");
        // D of the second part first would be lighter, by 9 words.
        script("or(key(A),and(key(B),key(C)))", "KEY.A TWICE UNLESS KEY.B VERIFY KEY.C END");
        script("or(and(key(B),key(C)),key(A))", "KEY.A TWICE UNLESS KEY.B VERIFY KEY.C END");
        script("thr(1,key(A),or(key(B),hash(0)))",
            "KEY.A ASIDE IF KEY.B ELSE HASH.0 END BACK ADD SAME.1");
    }

    private static void leastWeight() {
        ANSWERS.sentence("and of these the least WEIGHT (the greatest that a witness may have that "
            + "satisfies it)");
        script("or(key(A),after(1))", "KEY.A TWICE UNLESS AFTER.1 END");
        script("or(after(1),key(A))", "KEY.A TWICE UNLESS AFTER.1 END");
        ANSWERS.due("weight with TWICE", 9, Answers.forgeOf("or(key(A),after(1))").size(4));
        script("or(hash(0),thr(1,after(1),after(2)))", "IF HASH.0 ELSE IF AFTER.1 ELSE ZERO END "
            + "ASIDE IF AFTER.2 ELSE ZERO END BACK ADD SAME.1 END");
        script("thr(1,or(hash(0),after(1)),key(H))", "IF HASH.0 ELSE IF AFTER.1 ELSE ZERO END END "
            + "ASIDE KEY.H BACK ADD SAME.1");
        script("thr(1,or(after(1),hash(0)),key(H))", "IF IF AFTER.1 ELSE ZERO END ELSE HASH.0 END "
            + "ASIDE KEY.H BACK ADD SAME.1");
    }

    /** Each policy has two ways of B with equally few words and equal weight. */
    private static void firstOfB() {
        ANSWERS.sentence("Each form is the first one among its ways, in this order");
        script("and(key(A),key(B))", "KEY.A VERIFY KEY.B");
        script("and(hash(1),after(5))", "HASH.1 VERIFY AFTER.5");
        // All three of B and all but the last of D.
        script("or(key(A),key(B))", "KEY.A TWICE UNLESS KEY.B END");
        script("or(key(A),thr(1,key(B),key(C)))",
            "KEY.A TWICE UNLESS KEY.B ASIDE KEY.C BACK ADD SAME.1 END");
        // The second and the third.
        script("or(hash(0),or(key(A),hash(1)))",
            "IF KEY.A ELSE HASH.1 END TWICE UNLESS HASH.0 END");
    }

    private static void firstOfD() {
        ANSWERS.sentence("Each form is the first one among its ways, in this order");
        script("thr(1,or(key(A),key(B)),key(H))",
            "KEY.A ASIDE KEY.B BACK OR ASIDE KEY.H BACK ADD SAME.1");
        // The second to the fourth.
        script("thr(1,or(key(A),thr(1,hash(0),hash(1),hash(2),hash(3))),key(H))",
            "KEY.A TWICE UNLESS IF HASH.0 ELSE ZERO END ASIDE IF HASH.1 ELSE ZERO END BACK ADD "
            + "ASIDE IF HASH.2 ELSE ZERO END BACK ADD ASIDE IF HASH.3 ELSE ZERO END BACK ADD "
            + "SAME.1 END ASIDE KEY.H BACK ADD SAME.1");
        // The third, the fourth and the last.
        script("thr(1,or(hash(0),hash(1)),key(H))",
            "IF IF HASH.0 ELSE ZERO END ELSE HASH.1 END ASIDE KEY.H BACK ADD SAME.1");
    }

    private static void firstOfV() {
        ANSWERS.sentence("Each form is the first one among its ways, in this order");
        script("and(and(key(A),or(key(B),key(C))),key(D))",
            "KEY.A VERIFY KEY.B UNLESS KEY.C VERIFY END KEY.D");
        script("and(key(A),or(or(key(B),or(key(C),key(D))),key(E)))",
            "KEY.B ASIDE KEY.C ASIDE KEY.D BACK OR BACK OR UNLESS KEY.E VERIFY END KEY.A");
        script("and(or(hash(0),or(key(A),hash(1))),key(B))",
            "IF HASH.0 VERIFY ELSE KEY.A UNLESS HASH.1 VERIFY END END KEY.B");
    }
}
