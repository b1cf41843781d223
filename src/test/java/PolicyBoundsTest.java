/** The sentences under "Terms" that bound what a policy may be and place a fault. */
public final class PolicyBoundsTest {
    private static final Answers ANSWERS = new Answers();
    private static final int GOOD = -1;
    private static final char FIRST = 33;
    private static final char LAST = 126;
    // Ten leaves and a hundred characters: both limits, and neither is passed.
    private static final String FULLEST = "thr(2,thr(3,hash(0),hash(1),hash(2),hash(3)),"
        + "thr(3,hash(4),hash(5),hash(6),hash(7)),hash(8),hash(9))";
    private static final String MOST_PARTS = "thr(4,or(or(key(A),key(B)),key(C)),"
        + "or(key(D),or(key(E),key(F))),or(or(key(G),key(H)),key(A)),key(B))";
    private static final String TEN = "thr(2,thr(1,key(A),key(B),key(C),key(D)),key(E),"
        + "thr(1,key(F),key(G),key(H),key(A)),key(B))";

    public static void main(String[] args) {
        hundredCharacters();
        keyNames();
        digitOfHash();
        digitsOfTimes();
        timesThatAreNone();
        twoOfAndAndOr();
        twoToFour();
        kOfThr();
        tenLeaves();
        firstWrongCharacter();
        lengthAtTheEnd();
        behindTheWhole();
        kAboveHowMany();
        leafTooMany();
        holdsAtTheEdges();
        ANSWERS.end();
    }

    private static void place(int want, String text) {
        PolicyForge x = new PolicyForge();
        ANSWERS.due("typed " + text, true, Answers.type(x, text));
        long read = Answers.answerOf(x::read);
        ANSWERS.due("read " + text, want == GOOD, read != Answers.BAD_ARGUMENT);
        ANSWERS.due("fault of " + text, want, x.fault());
        ANSWERS.dueOf("words of " + text, want == GOOD ? read : Answers.NOTHING_THERE,
            () -> x.size(1));
    }

    private static void word(int want, String text) {
        PolicyForge x = Answers.forgeOf(text);
        ANSWERS.dueSame("words of " + text, Answers.list(want), Answers.wordsOf(x));
    }

    private static void hundredCharacters() {
        ANSWERS.sentence("at most 100 characters");
        ANSWERS.due("length", 100, FULLEST.length());
        place(GOOD, FULLEST);
        ANSWERS.due("length", 100, MOST_PARTS.length());
        ANSWERS.due("as many parts as fit", 17, Answers.forgeOf(MOST_PARTS).size(7));
        PolicyForge x = new PolicyForge();
        ANSWERS.due("hundred", true, Answers.type(x, FULLEST));
        ANSWERS.due("one more", false, x.text(0, 0, 0, 0, ')'));
        ANSWERS.dueOf("the hundred are read", x.read(), () -> x.size(1));
    }

    private static void keyNames() {
        ANSWERS.sentence("key(K), K one of A .. H");
        for (char name = FIRST; name <= LAST; name++) {
            boolean good = "ABCDEFGH".indexOf(name) >= 0;
            place(good ? GOOD : 4, "key(" + name + ")");
            if (good) {
                word(1000 + name - 'A', "key(" + name + ")");
            }
        }
        place(5, "key(AB)");
    }

    private static void digitOfHash() {
        ANSWERS.sentence("hash(d), d a digit");
        for (char digit = FIRST; digit <= LAST; digit++) {
            boolean good = "0123456789".indexOf(digit) >= 0;
            place(good ? GOOD : 5, "hash(" + digit + ")");
            if (good) {
                word(2000 + digit - '0', "hash(" + digit + ")");
            }
        }
        place(6, "hash(00)");
    }

    private static void digitsOfTimes() {
        ANSWERS.sentence("after(n), older(n), n one to three digits, above 0");
        for (int n = 1; n <= 999; n++) {
            word(3000 + n, "after(" + n + ")");
            word(4000 + n, "older(" + n + ")");
            word(3000 + n, String.format("after(%02d)", n));
            word(4000 + n, String.format("older(%03d)", n));
        }
    }

    private static void timesThatAreNone() {
        ANSWERS.sentence("after(n), older(n), n one to three digits, above 0");
        for (String name : new String[] {"after(", "older("}) {
            place(6, name + ")");
            place(7, name + "0)");
            place(8, name + "00)");
            place(8, name + "000)");
            place(8, name + "0001)");
            place(9, name + "0011)");
            place(9, name + "1000)");
            place(9, name + "9999)");
            place(6, name + "-1)");
            place(6, name + "+1)");
            place(7, name + "1,1)");
            for (char digit = FIRST; digit <= LAST; digit++) {
                boolean good = digit >= '1' && digit <= '9';
                place(good ? GOOD : digit == '0' ? 7 : 6, name + digit + ")");
            }
        }
    }

    private static void twoOfAndAndOr() {
        ANSWERS.sentence("and(P,P); or(P,P)");
        place(4, "and()");
        place(10, "and(key(A))");
        place(GOOD, "and(key(A),key(B))");
        place(17, "and(key(A),key(B),key(C))");
        place(3, "or()");
        place(9, "or(key(A))");
        place(GOOD, "or(key(A),key(B))");
        place(16, "or(key(A),key(B),key(C))");
        place(4, "and(1,key(A),key(B))");
    }

    private static String thr(char k, int count) {
        StringBuilder text = new StringBuilder("thr(").append(k);
        for (int i = 0; i < count; i++) {
            text.append(",key(").append((char) ('A' + i)).append(')');
        }
        return text.append(')').toString();
    }

    private static void twoToFour() {
        ANSWERS.sentence("two to four policies");
        place(5, thr('1', 0));
        place(12, thr('1', 1));
        place(GOOD, thr('1', 2));
        place(GOOD, thr('1', 3));
        place(GOOD, thr('1', 4));
        place(33, thr('1', 5));
        place(33, thr('4', 5));
        place(33, thr('5', 5));
    }

    private static void kOfThr() {
        ANSWERS.sentence("k a digit from 1 to how many there are");
        for (int count = 2; count <= 4; count++) {
            for (char k = FIRST; k <= LAST; k++) {
                boolean digit = k >= '1' && k <= '9';
                boolean good = digit && k - '0' <= count;
                place(good ? GOOD : digit ? thr(k, count).length() - 1 : 4, thr(k, count));
            }
        }
        place(4, "thr(01,key(A),key(B))");
        place(5, "thr(12,key(A),key(B))");
        place(4, "thr(,key(A),key(B))");
    }

    private static void kAboveHowMany() {
        ANSWERS.sentence("k above how many there are: the place of ) behind them");
        place(19, "thr(3,key(A),key(B))");
        place(19, "thr(9,key(A),key(B))");
        place(26, "thr(4,key(A),key(B),key(C))");
        place(33, "thr(5,key(A),key(B),key(C),key(D))");
        place(30, "and(key(A),thr(3,key(A),key(B)))");
        place(22, "or(thr(3,key(A),key(B)),key(I))");
        // Not before ) is there.
        place(19, "thr(3,key(A),key(B)");
        place(16, "thr(3,key(A),key");
        place(17, "thr(9,key(A),key(I))");
    }

    private static void tenLeaves() {
        ANSWERS.sentence("at most 10 LEAVES (key, hash, after, older)");
        ANSWERS.due("ten", 10, Answers.forgeOf(TEN).size(0));
        ANSWERS.due("fullest", 10, Answers.forgeOf(FULLEST).size(0));
        // Three characters for each OR that is open and eight for each that ends: nine fit.
        String nested = "key(A)";
        for (int leaves = 2; leaves <= 9; leaves++) {
            nested = "or(" + nested + ",key(B))";
            ANSWERS.due("leaves of " + nested, leaves, Answers.forgeOf(nested).size(0));
        }
    }

    private static void leafTooMany() {
        ANSWERS.sentence("a leaf too many, as soon as its ( is read: that of its first letter");
        String nine = "thr(1,key(A),key(B),key(C),thr(1,key(D),key(E),key(F),"
            + "thr(1,key(G),key(H),key(A),";
        String ten = nine + "or(key(B),";
        for (String name : new String[] {"key", "hash", "after", "older"}) {
            place(ten.length(), ten + name + "(");
            place(ten.length(), ten + name + "(?");
            place(ten.length() + name.length(), ten + name);
            place(ten.length() + name.length(), ten + name + ")");
            place(ten.length() + name.length() - 1, ten + name.substring(0, name.length() - 1));
            place(ten.length() + 3, ten + "or(" + name + "(");
        }
        place(ten.length() + 3, ten + "or(");
        place(ten.length() + 5, ten + "thr(2");
        place(ten.length(), ten);
        place(nine.length() + 9, nine + "key(B))))x");
    }

    private static void firstWrongCharacter() {
        ANSWERS.sentence("the place of the first character with which what is read is the "
            + "beginning of no policy");
        String[] texts = {"or(after(10),older(099))", "thr(2,key(A),hash(0))",
            "and(key(H),or(hash(9),key(A)))", "thr(1,thr(3,key(A),key(B),key(C)),key(D))"};
        for (String text : texts) {
            for (int i = 0; i < text.length(); i++) {
                for (char other = FIRST; other <= LAST; other++) {
                    String changed = text.substring(0, i) + other + text.substring(i + 1);
                    place(Oracle.fault(changed), changed);
                }
            }
        }
        place(0, "?");
        place(0, "Key(A)");
        place(1, "atter(1)");
        place(2, "afder(1)");
        place(2, "anf(key(A),key(B))");
        place(1, "off(key(A),key(B))");
    }

    private static void lengthAtTheEnd() {
        ANSWERS.sentence("(its length at its end)");
        String[] texts = {"key(A)", "hash(1)", "after(100)", "older(001)", "and(key(A),key(B))",
            "or(key(A),key(B))", "thr(4,key(A),key(B),key(C),key(D))", TEN, FULLEST, MOST_PARTS};
        for (String text : texts) {
            for (int length = 0; length < text.length(); length++) {
                place(length, text.substring(0, length));
            }
            place(GOOD, text);
        }
        place(100, "and(".repeat(25));
        place(99, "or(".repeat(33));
    }

    private static void behindTheWhole() {
        ANSWERS.sentence("the place of the first character with which what is read is the "
            + "beginning of no policy");
        for (char more = FIRST; more <= LAST; more++) {
            place(6, "key(A)" + more);
            place(17, "or(key(A),key(B))" + more);
        }
        place(6, "key(A)key(A)");
    }

    private static void holdsAtTheEdges() {
        ANSWERS.sentence("after(n) if the height is n or more; older(n) if the age is");
        for (int n : new int[] {1, 2, 500, 998, 999}) {
            PolicyForge height = Answers.forgeOf("after(" + n + ")");
            PolicyForge age = Answers.forgeOf("older(" + n + ")");
            for (int time : new int[] {Integer.MIN_VALUE, -n, 0, n - 1, n, n + 1,
                    Integer.MAX_VALUE}) {
                ANSWERS.due("height " + time, time >= n, height.holds(0, 0, time, n - 1));
                ANSWERS.due("age " + time, time >= n, age.holds(0, 0, n - 1, time));
            }
        }
        ANSWERS.sentence("thr if k or more do");
        for (int k = 1; k <= 4; k++) {
            PolicyForge x = Answers.forgeOf(thr((char) ('0' + k), 4));
            for (int keys = 0; keys < 16; keys++) {
                ANSWERS.due(k + " of " + keys, Integer.bitCount(keys) >= k,
                    x.holds(keys, 0, 0, 0));
            }
        }
    }
}
