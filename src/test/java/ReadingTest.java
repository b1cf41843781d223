/** Promises 3 and 4: read, fault. */
public final class ReadingTest {
    private static final Answers ANSWERS = new Answers();
    private static final int GOOD = -1;

    public static void main(String[] args) {
        leaves();
        joined();
        thresholds();
        manyLeaves();
        state();
        ANSWERS.end();
    }

    private static void place(int want, String text) {
        PolicyForge x = new PolicyForge();
        long read = Answers.read(x, text);
        ANSWERS.due("read " + text, want == GOOD, read != Answers.BAD_ARGUMENT);
        ANSWERS.due("fault of " + text, want, x.fault());
        ANSWERS.dueOf("policy of " + text, want == GOOD ? read : Answers.NOTHING_THERE,
            () -> x.size(1));
    }

    private static void leaves() {
        place(GOOD, "key(A)");
        place(GOOD, "key(H)");
        place(4, "key(I)");
        place(4, "key(a)");
        place(4, "key(@)");
        place(4, "key()");
        place(5, "key(AB)");
        place(3, "key");
        place(3, "keys(A)");
        place(0, "Key(A)");
        place(0, "x");
        place(0, "");
        place(6, "key(A),");
        place(6, "key(A)key(B)");
        place(GOOD, "hash(0)");
        place(GOOD, "hash(9)");
        place(5, "hash(A)");
        place(6, "hash(10)");
        place(4, "hash");
        place(1, "a");
        place(1, "aa");
        place(2, "af");
        place(2, "afn");
        place(2, "anf");
        place(3, "and)");
        place(2, "olf");
        place(2, "orl");
        place(1, "od");
        place(GOOD, "after(1)");
        place(GOOD, "after(999)");
        place(GOOD, "older(001)");
        place(GOOD, "older(010)");
        place(GOOD, "older(01)");
        place(9, "older(1000)");
        place(6, "older()");
        place(7, "older(0)");
        place(8, "older(00)");
        place(8, "older(000)");
        place(7, "older(1");
        place(6, "after(-1)");
        place(7, "after(1A)");
    }

    private static void joined() {
        place(GOOD, "and(key(A),key(A))");
        place(GOOD, "or(key(A),hash(1))");
        place(10, "and(key(A))");
        place(9, "or(key(A))");
        place(17, "and(key(A),key(B),key(C))");
        place(4, "and(,key(B))");
        place(11, "and(key(A),)");
        place(17, "and(key(A),key(B)");
        place(10, "and(key(A)");
        place(4, "and(");
        place(18, "and(key(A),key(B)))");
        place(99, "or(".repeat(33));
        place(99, "or(".repeat(33) + "x");
        place(100, "or(".repeat(33) + "o");
        place(100, "and(".repeat(25));
    }

    private static void thresholds() {
        place(GOOD, "thr(1,key(A),key(B))");
        place(GOOD, "thr(2,key(A),key(B))");
        place(GOOD, "thr(4,key(A),key(B),key(C),key(D))");
        place(4, "thr(0,key(A),key(B))");
        place(19, "thr(5,key(A),key(B))");
        place(4, "thr(key(A),key(B))");
        place(5, "thr(12,key(A),key(B))");
        place(6, "thr(1,)");
        place(12, "thr(1,key(A))");
        place(19, "thr(3,key(A),key(B))");
        place(19, "thr(4,key(A),key(B)x");
        place(26, "thr(4,key(A),key(B),key(C))");
        place(33, "thr(4,key(A),key(B),key(C),key(D),key(E))");
        place(33, "thr(1,key(A),key(B),key(C),key(D)");
        place(19, "thr(2,key(A),key(B)");
        place(20, "thr(2,key(A),key(B),)");
        place(30, "and(key(A),thr(3,key(A),key(B)))");
    }

    private static void manyLeaves() {
        String ten = "thr(2,thr(1,key(A),key(B),key(C)),key(D),thr(1,key(E),key(F),key(G)),"
            + "thr(1,key(H),key(A),key(B)))";
        place(GOOD, ten);
        place(ten.length(), ten + ")");
        place(ten.length() - 1, ten.substring(0, ten.length() - 1));
        String open = "thr(1,key(A),key(B),key(C),thr(1,key(D),key(E),key(F),"
            + "thr(1,key(G),key(H),key(A),";
        place(open.length() + 3, open + "or(");
        place(open.length() + 10, open + "or(key(B),key(");
        place(open.length() + 13, open + "or(key(B),key");
        place(open.length() + 13, open + "or(key(B),key)");
        place(open.length() + 10, open + "or(key(B),hash(");
        place(open.length() + 13, open + "or(key(B),or(");
    }

    private static void state() {
        PolicyForge x = new PolicyForge();
        ANSWERS.due("first", 1, Answers.read(x, "key(C)"));
        ANSWERS.due("no fault", -1, x.fault());
        ANSWERS.dueOf("its word", 1002, () -> x.word(0));
        ANSWERS.due("typing leaves it", true, Answers.type(x, "key"));
        ANSWERS.dueOf("its word still", 1002, () -> x.word(0));
        ANSWERS.due("no fault still", -1, x.fault());
        ANSWERS.due("the rest", true, Answers.type(x, "(Z)"));
        ANSWERS.dueOf("bad", Answers.BAD_ARGUMENT, x::read);
        ANSWERS.due("its fault", 4, x.fault());
        ANSWERS.dueOf("no word", Answers.BAD_INDEX, () -> x.word(0));
        ANSWERS.dueOf("no policy", Answers.NOTHING_THERE, () -> x.size(0));
        ANSWERS.dueOf("nothing typed", Answers.BAD_ARGUMENT, x::read);
        ANSWERS.due("fault of nothing", 0, x.fault());
        ANSWERS.due("good again", 1, Answers.read(x, "after(7)"));
        ANSWERS.due("no fault again", -1, x.fault());
        ANSWERS.dueOf("its word now", 3007, () -> x.word(0));
    }
}
