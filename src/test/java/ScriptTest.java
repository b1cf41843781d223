/** Promises 6 and 7: word, size. */
public final class ScriptTest {
    private static final Answers ANSWERS = new Answers();

    private static final int VERIFY = 5000;
    private static final int AND = 6000;
    private static final int OR = 7000;
    private static final int ADD = 8000;
    private static final int SAME = 9000;
    private static final int ASIDE = 10000;
    private static final int BACK = 11000;
    private static final int IF = 12000;
    private static final int ELSE = 13000;
    private static final int END = 14000;
    private static final int UNLESS = 15000;
    private static final int TWICE = 16000;
    private static final int ZERO = 17000;
    private static final int A = 1000;
    private static final int B = 1001;
    private static final int C = 1002;
    private static final int H = 1007;

    public static void main(String[] args) {
        leaves();
        waysOfB();
        waysOfD();
        waysOfV();
        sizes();
        wrong();
        ANSWERS.end();
    }

    private static void script(String text, int... words) {
        PolicyForge x = new PolicyForge();
        ANSWERS.due("read " + text, words.length, Answers.read(x, text));
        for (int i = 0; i < words.length; i++) {
            int place = i;
            ANSWERS.dueOf(text + " word " + i, words[i], () -> x.word(place));
        }
        ANSWERS.dueOf(text + " word behind", Answers.BAD_INDEX, () -> x.word(words.length));
        ANSWERS.dueOf(text + " word before", Answers.BAD_INDEX, () -> x.word(-1));
    }

    private static void leaves() {
        script("key(A)", A);
        script("key(H)", H);
        script("hash(0)", 2000);
        script("hash(9)", 2009);
        script("after(1)", 3001);
        script("after(999)", 3999);
        script("older(050)", 4050);
    }

    private static void waysOfB() {
        script("and(key(A),key(B))", A, VERIFY, B);
        // V of the second part is as short as its B.
        script("and(key(A),or(key(B),key(C)))", B, UNLESS, C, VERIFY, END, A);
        script("and(or(key(B),key(C)),key(A))", B, UNLESS, C, VERIFY, END, A);
        script("or(key(A),key(B))", A, TWICE, UNLESS, B, END);
        script("or(key(A),after(5))", A, TWICE, UNLESS, 3005, END);
        script("or(after(5),key(A))", A, TWICE, UNLESS, 3005, END);
        script("or(hash(1),after(5))", IF, 2001, ELSE, 3005, END);
        script("thr(2,key(A),key(B))", A, VERIFY, B);
        script("thr(3,key(A),hash(2),after(5))", A, VERIFY, 2002, VERIFY, 3005);
        script("thr(1,key(A),key(B))", A, ASIDE, B, BACK, ADD, SAME + 1);
        script("thr(2,key(A),key(B),key(C))",
            A, ASIDE, B, BACK, ADD, ASIDE, C, BACK, ADD, SAME + 2);
    }

    /** D of a part shows where thr asks for it. */
    private static void waysOfD() {
        script("thr(1,hash(4),key(H))",
            IF, 2004, ELSE, ZERO, END, ASIDE, H, BACK, ADD, SAME + 1);
        script("thr(1,and(key(A),key(B)),key(H))",
            A, ASIDE, B, BACK, AND, ASIDE, H, BACK, ADD, SAME + 1);
        // Of the same length and weight as with TWICE, which comes later.
        script("thr(1,or(key(A),key(B)),key(H))",
            A, ASIDE, B, BACK, OR, ASIDE, H, BACK, ADD, SAME + 1);
        script("thr(1,or(key(A),after(5)),key(H))",
            IF, A, ELSE, 3005, END, ASIDE, H, BACK, ADD, SAME + 1);
        script("thr(1,or(after(5),key(A)),key(H))",
            IF, 3005, ELSE, A, END, ASIDE, H, BACK, ADD, SAME + 1);
        script("thr(1,and(key(A),after(5)),key(H))",
            IF, A, VERIFY, 3005, ELSE, ZERO, END, ASIDE, H, BACK, ADD, SAME + 1);
        script("thr(1,thr(2,key(A),key(B)),key(H))",
            A, ASIDE, B, BACK, ADD, SAME + 2, ASIDE, H, BACK, ADD, SAME + 1);
        script("thr(1,or(and(key(A),key(B)),key(C)),key(H))",
            IF, A, VERIFY, B, ELSE, C, END, ASIDE, H, BACK, ADD, SAME + 1);
        // TWICE is lighter: no refusal of the second part stands beside the heavy first one.
        script("thr(1,or(thr(2,key(A),key(B),key(C)),key(A)),key(H))",
            A, ASIDE, B, BACK, ADD, ASIDE, C, BACK, ADD, SAME + 2, TWICE, UNLESS, A, END,
            ASIDE, H, BACK, ADD, SAME + 1);
    }

    private static void waysOfV() {
        script("and(and(key(A),key(B)),key(C))", A, VERIFY, B, VERIFY, C);
        script("and(or(hash(1),hash(2)),key(A))",
            IF, 2001, ELSE, 2002, END, VERIFY, A);
        // As V, the parts inside are shorter than as D and not longer than as B.
        script("and(or(and(or(key(A),key(B)),or(key(C),key(A))),"
            + "and(or(key(B),key(C)),or(key(A),key(B)))),key(H))",
            IF, A, UNLESS, B, VERIFY, END, C, UNLESS, A, VERIFY, END,
            ELSE, B, UNLESS, C, VERIFY, END, A, UNLESS, B, VERIFY, END, END, H);
        script("and(or(key(A),key(B)),or(key(C),key(A)))",
            A, UNLESS, B, VERIFY, END, C, TWICE, UNLESS, A, END);
        script("and(thr(1,key(A),key(B)),key(C))",
            A, ASIDE, B, BACK, ADD, SAME + 1, VERIFY, C);
    }

    private static void size(String text, int... sizes) {
        PolicyForge x = Answers.forgeOf(text);
        for (int i = 0; i < sizes.length; i++) {
            ANSWERS.due(text + " size " + i, sizes[i], x.size(i));
        }
    }

    private static void sizes() {
        size("key(A)", 1, 1, 1, 2, 9, 9, 9, 1);
        size("hash(3)", 1, 1, 5, 2, 5, 6, 5, 1);
        size("after(50)", 1, 1, 5, 2, 0, 1, 0, 1);
        size("older(50)", 1, 1, 5, 2, 0, 1, 0, 1);
        size("and(key(A),key(B))", 2, 3, 5, 4, 18, 18, 18, 3);
        size("or(key(A),key(B))", 2, 5, 5, 5, 10, 10, 10, 3);
        size("or(key(A),after(5))", 2, 5, 5, 5, 9, 10, 9, 3);
        size("or(hash(1),after(5))", 2, 5, 9, 6, 6, 6, 6, 3);
        size("thr(1,key(A),key(B))", 2, 6, 6, 7, 10, 10, 10, 3);
        size("thr(2,key(A),hash(1),after(5))", 3, 18, 18, 19, 16, 16, 16, 4);
        size("or(hash(1),or(older(5),key(B)))", 3, 9, 9, 10, 10, 11, 10, 5);
    }

    private static void wrong() {
        PolicyForge x = Answers.forgeOf("key(A)");
        int[] no = {-1, 8, Integer.MIN_VALUE, Integer.MAX_VALUE};
        for (int what : no) {
            ANSWERS.dueOf("size " + what, Answers.BAD_ARGUMENT, () -> x.size(what));
            ANSWERS.dueOf("word " + what, Answers.BAD_INDEX, () -> x.word(what));
        }
        ANSWERS.due("a fault", Answers.BAD_ARGUMENT, Answers.read(x, "key"));
        for (int what = -1; what < 9; what++) {
            int asked = what;
            ANSWERS.dueOf("size without one", Answers.NOTHING_THERE, () -> x.size(asked));
        }
        ANSWERS.dueOf("word without one", Answers.BAD_INDEX, () -> x.word(0));
    }
}
