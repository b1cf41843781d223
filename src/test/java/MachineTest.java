import java.util.Arrays;

/** Promises 12 and 13: check, done. */
public final class MachineTest {
    private static final Answers ANSWERS = new Answers();
    private static final int ACCEPTED = -1;

    public static void main(String[] args) {
        keys();
        branches();
        unless();
        counting();
        times();
        state();
        ANSWERS.end();
    }

    private static void check(String text, int answer, int done, int... witness) {
        checkAt(text, 0, answer, done, witness);
    }

    private static void checkAt(String text, int time, int answer, int done, int... witness) {
        PolicyForge x = Answers.forgeOf(text);
        String what = text + " at " + time + " with " + Arrays.toString(witness);
        for (int item : witness) {
            x.put(item);
        }
        ANSWERS.due(what + ": check", answer, x.check(time, time));
        ANSWERS.due(what + ": done", done, x.done());
        for (int i = 0; i < witness.length; i++) {
            ANSWERS.due(what + ": stays", witness[i], x.item(i));
        }
        ANSWERS.dueOf(what + ": no more", Answers.BAD_INDEX, () -> x.item(witness.length));
        ANSWERS.due(what + ": check again", answer, x.check(time, time));
    }

    private static void keys() {
        check("key(B)", ACCEPTED, 1, 11);
        check("key(B)", 0, 1);
        check("key(B)", 0, 1, 10);
        check("key(B)", 0, 1, 1);
        check("key(B)", 0, 1, 21);
        check("key(B)", 1, 1, 0);
        check("key(B)", 1, 1, 11, 0);
        check("hash(3)", ACCEPTED, 1, 23);
        check("hash(3)", 0, 1);
        check("hash(3)", 1, 1, 22);
        check("hash(3)", 1, 1, 13);
        check("hash(3)", 1, 1, 1);
        check("hash(3)", 1, 1, 0);
        check("and(key(A),key(B))", ACCEPTED, 3, 10, 11);
        check("and(key(A),key(B))", 0, 1, 11, 10);
        check("and(key(A),key(B))", 1, 2, 0, 11);
        check("and(key(A),key(B))", 2, 3, 10);
        check("and(key(A),key(B))", 3, 3, 10, 0);
    }

    private static void branches() {
        String text = "or(hash(1),hash(2))";
        check(text, ACCEPTED, 3, 1, 21);
        check(text, ACCEPTED, 3, 0, 22);
        check(text, 0, 1);
        check(text, 0, 1, 10, 21);
        check(text, 0, 1, 21);
        check(text, 1, 2, 1);
        check(text, 3, 2, 0);
        check(text, 5, 3, 1, 22);
        check(text, 5, 3, 0, 21);
        check(text, 5, 3, 1, 21, 1);
        // One inside another: from the outer IF to the outer ELSE.
        String nested = "or(or(hash(1),hash(2)),or(hash(3),hash(4)))";
        check(nested, ACCEPTED, 5, 1, 1, 21);
        check(nested, ACCEPTED, 5, 1, 0, 22);
        check(nested, ACCEPTED, 5, 0, 1, 23);
        check(nested, ACCEPTED, 5, 0, 0, 24);
        check(nested, 13, 5, 0, 0, 23);
        check(nested, 7, 2, 0, 20);
    }

    private static void unless() {
        check("or(key(A),key(B))", ACCEPTED, 3, 10);
        check("or(key(A),key(B))", ACCEPTED, 5, 0, 11);
        check("or(key(A),key(B))", 0, 1, 11);
        check("or(key(A),key(B))", 3, 4, 0, 10);
        check("or(key(A),key(B))", 3, 4, 0);
        check("or(key(A),key(B))", 5, 5, 0, 0);
        check("or(key(A),key(B))", 5, 3, 10, 11);
        String text = "and(or(key(A),key(B)),key(C))";
        check(text, ACCEPTED, 3, 10, 12);
        check(text, ACCEPTED, 6, 0, 11, 12);
        check(text, 3, 4, 0, 0, 12);
        check(text, 5, 3, 10, 11);
    }

    private static void counting() {
        String two = "thr(2,key(A),key(B),key(C))";
        check(two, ACCEPTED, 10, 10, 11, 0);
        check(two, ACCEPTED, 10, 0, 11, 12);
        check(two, 10, 10, 10, 11, 12);
        check(two, 10, 10, 10, 0, 0);
        check(two, 6, 7, 10, 11);
        check(two, 2, 3, 10, 12, 11);
        String both = "thr(1,and(key(A),key(B)),key(C))";
        check(both, ACCEPTED, 10, 10, 11, 0);
        check(both, ACCEPTED, 10, 10, 0, 12);
        check(both, ACCEPTED, 10, 0, 0, 12);
        check(both, 10, 10, 10, 0, 0);
        String any = "thr(1,or(key(A),key(B)),key(C))";
        check(any, ACCEPTED, 10, 10, 11, 0);
        check(any, ACCEPTED, 10, 0, 11, 0);
        check(any, 10, 10, 0, 11, 12);
        String zero = "thr(1,hash(1),key(C))";
        check(zero, ACCEPTED, 8, 0, 12);
        check(zero, ACCEPTED, 8, 1, 21, 0);
        check(zero, ACCEPTED, 8, 1, 20, 12);
        check(zero, 10, 8, 0, 0);
    }

    private static void times() {
        checkAt("after(50)", 50, ACCEPTED, 1);
        checkAt("after(50)", 49, 0, 1);
        checkAt("after(50)", 50, 1, 1, 1);
        checkAt("or(key(A),older(7))", 7, ACCEPTED, 5, 0);
        checkAt("or(key(A),older(7))", 6, 3, 4, 0);
        PolicyForge x = Answers.forgeOf("and(after(5),older(6))");
        ANSWERS.due("height and age", ACCEPTED, x.check(5, 6));
        ANSWERS.due("height", 0, x.check(4, 6));
        ANSWERS.due("age", 2, x.check(5, 5));
        ANSWERS.due("the least", 0, x.check(Integer.MIN_VALUE, Integer.MIN_VALUE));
        ANSWERS.due("the greatest", ACCEPTED, x.check(Integer.MAX_VALUE, Integer.MAX_VALUE));
    }

    private static void state() {
        PolicyForge x = new PolicyForge();
        ANSWERS.due("done before", 0, x.done());
        ANSWERS.dueOf("check without one", Answers.NOTHING_THERE, () -> x.check(0, 0));
        ANSWERS.due("done still", 0, x.done());
        ANSWERS.due("read", 5, Answers.read(x, "or(key(A),key(B))"));
        ANSWERS.due("done behind read", 0, x.done());
        ANSWERS.due("satisfy", 10, x.satisfy(2, 0, 0, 0));
        ANSWERS.due("done behind satisfy", 0, x.done());
        ANSWERS.due("check", ACCEPTED, x.check(0, 0));
        ANSWERS.due("done", 5, x.done());
        x.clear();
        ANSWERS.due("done of the latest check", 5, x.done());
        ANSWERS.due("check of nothing", 0, x.check(0, 0));
        ANSWERS.due("done of nothing", 1, x.done());
        ANSWERS.due("another policy", 1, Answers.read(x, "key(A)"));
        ANSWERS.due("put", 1, x.put(10));
        ANSWERS.due("check of another", ACCEPTED, x.check(0, 0));
        ANSWERS.due("a fault", Answers.BAD_ARGUMENT, Answers.read(x, "key(A"));
        ANSWERS.dueOf("no policy", Answers.NOTHING_THERE, () -> x.check(0, 0));
        ANSWERS.due("the same again", 1, Answers.read(x, "key(A)"));
        ANSWERS.due("the witness stayed", ACCEPTED, x.check(0, 0));
    }
}
