import java.util.Collections;

/** The boundary cases that the promises name, call by call, and every call with any int. */
public final class CallBoundsTest {
    private static final Answers ANSWERS = new Answers();
    private static final int LEAST = Integer.MIN_VALUE;
    private static final int GREATEST = Integer.MAX_VALUE;
    private static final int[] EDGES = {LEAST, LEAST + 1, -65536, -1001, -256, -255, -1, 0, 1, 2, 3,
        9, 10, 255, 256, 512, 999, 1000, 65536, 1 << 24, 1 << 30, GREATEST - 1, GREATEST};
    private static final String MIXED = "thr(2,key(A),hash(9),and(after(1),older(999)))";

    public static void main(String[] args) {
        newObject();
        bytesThatAreZero();
        bytesOutside();
        refusedTyping();
        hundredPassed();
        emptyThen();
        noPolicyThen();
        faultOfTheLatest();
        noPolicy();
        noSuchWord();
        noSuchWhat();
        noWitness();
        takesThePlace();
        noSuchItem();
        twentyFour();
        clearing();
        noItem();
        failedOrEnded();
        witnessStays();
        doneOfTheLatest();
        anySetsAndTimes();
        lastCalls();
        ANSWERS.end();
    }

    private static void fails(PolicyForge x, String text) {
        ANSWERS.due("read " + text, Answers.BAD_ARGUMENT, Answers.read(x, text));
    }

    private static void newObject() {
        ANSWERS.sentence("Nothing typed, no policy");
        PolicyForge x = new PolicyForge();
        ANSWERS.dueSame("state", "words [], sizes " + Collections.nCopies(8,
            Answers.NOTHING_THERE) + ", items [], fault -1, done 0", Answers.stateOf(x));
        ANSWERS.dueOf("read", Answers.BAD_ARGUMENT, x::read);
        ANSWERS.due("fault at the end of nothing", 0, x.fault());
    }

    private static void bytesThatAreZero() {
        ANSWERS.sentence("the bytes of each number, the highest first, but for bytes that are 0");
        PolicyForge x = new PolicyForge();
        ANSWERS.due("zeros alone", true, x.text(0, 0, 0, 0, 0));
        ANSWERS.due("zeros around", true, x.text('k' << 24, 'e' << 16, 'y' << 8, '(', 0));
        ANSWERS.due("zeros between", true, x.text('H' << 24 | ')', 0, 0, 0, 0));
        ANSWERS.due("read", 1, x.read());
        ANSWERS.due("word", 1007, x.word(0));
        for (int i = 0; i < 3; i++) {
            ANSWERS.due("zeros type nothing", true, x.text(0, 0, 0, 0, 0));
        }
        ANSWERS.dueOf("nothing typed", Answers.BAD_ARGUMENT, x::read);
        ANSWERS.due("fault", 0, x.fault());
    }

    private static void bytesOutside() {
        ANSWERS.sentence("false, and nothing is, if one is not 33 .. 126");
        for (int one = 0; one < 256; one++) {
            boolean good = one == 0 || (one >= 33 && one <= 126);
            for (int place = 0; place < 20; place++) {
                int[] numbers = new int[5];
                numbers[place / 4] = one << 8 * (place % 4);
                PolicyForge x = new PolicyForge();
                ANSWERS.due("byte " + one + " at " + place, good,
                    x.text(numbers[0], numbers[1], numbers[2], numbers[3], numbers[4]));
            }
        }
        for (int edge : EDGES) {
            // '@' is the highest byte of the one, and all the others of it are 0.
            boolean good = edge == 0 || edge == 1 << 30;
            ANSWERS.due("number " + edge, good, new PolicyForge().text(edge, 0, 0, 0, 0));
            ANSWERS.due("number " + edge, good, new PolicyForge().text(0, 0, 0, 0, edge));
        }
    }

    private static void refusedTyping() {
        ANSWERS.sentence("false, and nothing is, if one is not 33 .. 126");
        int key = 'k' << 24 | 'e' << 16 | 'y' << 8 | '(';
        for (int wrong : new int[] {1, 32, 127, 255, LEAST, -1, ' ' << 24 | 'A'}) {
            PolicyForge x = Answers.forgeOf("hash(3)");
            String before = Answers.stateOf(x);
            ANSWERS.due("begun", true, Answers.type(x, "key("));
            ANSWERS.due("wrong at first", false, x.text(wrong, key, key, key, key));
            ANSWERS.due("wrong at last", false, x.text(key, key, key, key, wrong));
            ANSWERS.dueSame("state", before, Answers.stateOf(x));
            ANSWERS.due("the rest", 1, Answers.read(x, "B)"));
            ANSWERS.due("word", 1001, x.word(0));
        }
    }

    private static void hundredPassed() {
        ANSWERS.sentence("or 100 would be passed");
        for (int typed = 79; typed <= 100; typed++) {
            for (int more = 0; more <= 20; more++) {
                PolicyForge x = new PolicyForge();
                ANSWERS.due(typed + " typed", true, Answers.type(x, "?".repeat(typed)));
                boolean good = typed + more <= 100;
                ANSWERS.due(typed + " and " + more, good, Answers.type(x, "?".repeat(more)));
                int left = good ? 100 - typed - more : 100 - typed;
                ANSWERS.due("not " + left + " and one", false,
                    Answers.type(x, "?".repeat(left)) & x.text('?', 0, 0, 0, 0));
            }
        }
        PolicyForge x = new PolicyForge();
        ANSWERS.due("or", true, Answers.type(x, "or(".repeat(33)));
        ANSWERS.due("two more", false, Answers.type(x, "or"));
        fails(x, "o");
        ANSWERS.due("the one alone was typed", 100, x.fault());
    }

    private static void emptyThen() {
        ANSWERS.sentence("Reads what was typed, which is empty then");
        PolicyForge x = Answers.forgeOf("key(A)");
        ANSWERS.dueOf("again, behind a policy", Answers.BAD_ARGUMENT, x::read);
        ANSWERS.due("nothing was there", 0, x.fault());
        fails(x, "key(A)x");
        ANSWERS.due("too much", 6, x.fault());
        ANSWERS.dueOf("again, behind a fault", Answers.BAD_ARGUMENT, x::read);
        ANSWERS.due("nothing was there", 0, x.fault());
        fails(x, "?".repeat(100));
        ANSWERS.due("a hundred have room", true, Answers.type(x, "?".repeat(100)));
    }

    private static void noPolicyThen() {
        ANSWERS.sentence("it has a fault; there is no policy then");
        for (String text : new String[] {"", "k", "key(I)", "key(A))", "after(0)",
                "thr(3,key(A),key(B))", "or(".repeat(33)}) {
            PolicyForge x = Answers.forgeOf(MIXED);
            fails(x, text);
            ANSWERS.dueOf("word", Answers.BAD_INDEX, () -> x.word(0));
            refuses(x, 0);
            ANSWERS.due("a policy again", 1, Answers.read(x, "key(A)"));
            ANSWERS.due("leaves again", 1, x.size(0));
        }
    }

    private static void refuses(PolicyForge x, int number) {
        String before = Answers.stateOf(x);
        ANSWERS.dueOf("holds", Answers.NOTHING_THERE,
            () -> x.holds(number, number, number, number) ? 1 : 0);
        ANSWERS.dueOf("size " + number, Answers.NOTHING_THERE, () -> x.size(number));
        ANSWERS.dueOf("satisfy", Answers.NOTHING_THERE,
            () -> x.satisfy(number, number, number, number));
        ANSWERS.dueOf("check", Answers.NOTHING_THERE, () -> x.check(number, number));
        ANSWERS.dueSame("state", before, Answers.stateOf(x));
    }

    private static void faultOfTheLatest() {
        ANSWERS.sentence("Of the latest read(): the fault's place; -1 if there was none");
        PolicyForge x = new PolicyForge();
        ANSWERS.due("no read yet", -1, x.fault());
        fails(x, "key(?)");
        ANSWERS.due("a fault", 4, x.fault());
        ANSWERS.due("typing", true, Answers.type(x, "hash(3)"));
        ANSWERS.due("typing is no read", 4, x.fault());
        ANSWERS.due("a policy", 1, x.read());
        ANSWERS.due("no fault", -1, x.fault());
        ANSWERS.due("no fault twice", -1, x.fault());
        fails(x, "");
        ANSWERS.due("the least place", 0, x.fault());
        fails(x, "and(".repeat(25));
        ANSWERS.due("the greatest place", 100, x.fault());
    }

    private static void noPolicy() {
        ANSWERS.sentence("NoSuchElementException: there is no policy");
        PolicyForge fresh = new PolicyForge();
        PolicyForge faulty = Answers.forgeOf(MIXED);
        faulty.satisfy(1, -1, 0, 0);
        faulty.check(0, 0);
        fails(faulty, "key(");
        for (int edge : EDGES) {
            refuses(fresh, edge);
            refuses(faulty, edge);
        }
    }

    private static void noSuchWord() {
        ANSWERS.sentence("Word i of the script. IndexOutOfBoundsException: there is none");
        PolicyForge x = Answers.forgeOf("or(key(A),key(B))");
        String before = Answers.stateOf(x);
        for (int edge : EDGES) {
            boolean there = edge >= 0 && edge < 5;
            ANSWERS.due("word " + edge, there,
                Answers.answerOf(() -> x.word(edge)) != Answers.BAD_INDEX);
        }
        ANSWERS.dueOf("the first", 1000, () -> x.word(0));
        ANSWERS.dueOf("the last", 14000, () -> x.word(4));
        ANSWERS.dueOf("behind the last", Answers.BAD_INDEX, () -> x.word(5));
        ANSWERS.dueSame("state", before, Answers.stateOf(x));
        ANSWERS.due("a shorter one", 1, Answers.read(x, "key(C)"));
        ANSWERS.dueOf("its only word", 1002, () -> x.word(0));
        ANSWERS.dueOf("no word of the longer one", Answers.BAD_INDEX, () -> x.word(1));
    }

    private static void noSuchWhat() {
        ANSWERS.sentence("IllegalArgumentException: no such what");
        PolicyForge x = Answers.forgeOf(MIXED);
        String before = Answers.stateOf(x);
        for (int edge : EDGES) {
            ANSWERS.due("size " + edge, edge >= 0 && edge <= 7,
                Answers.answerOf(() -> x.size(edge)) != Answers.BAD_ARGUMENT);
        }
        ANSWERS.dueOf("the least", 4, () -> x.size(0));
        ANSWERS.dueOf("the greatest", 6, () -> x.size(7));
        ANSWERS.dueOf("beyond", Answers.BAD_ARGUMENT, () -> x.size(8));
        ANSWERS.dueSame("state", before, Answers.stateOf(x));
    }

    private static void noWitness() {
        ANSWERS.sentence("-1 if there is none (the one before stays then)");
        PolicyForge x = Answers.forgeOf("and(key(A),after(5))");
        ANSWERS.due("none, and none before", -1, x.satisfy(0, -1, 5, 999));
        ANSWERS.dueSame("still empty", Answers.list(), Answers.itemsOf(x));
        x.put(29);
        x.put(0);
        ANSWERS.due("none, one put before", -1, x.satisfy(1, -1, 4, 999));
        ANSWERS.dueSame("it stays", Answers.list(29, 0), Answers.itemsOf(x));
        ANSWERS.due("one", 9, x.satisfy(1, 0, 5, 0));
        ANSWERS.due("none, one made before", -1, x.satisfy(~1, 0, 5, 0));
        ANSWERS.dueSame("it stays too", Answers.list(10), Answers.itemsOf(x));
    }

    private static void takesThePlace() {
        ANSWERS.sentence("It takes the place of the one before");
        PolicyForge x = Answers.forgeOf("or(key(A),hash(5))");
        for (int i = 0; i < 24; i++) {
            x.put(1);
        }
        ANSWERS.due("shorter", 6, x.satisfy(1, 32, 0, 0));
        ANSWERS.dueSame("alone", Answers.list(0, 25), Answers.itemsOf(x));
        ANSWERS.due("shorter again", 9, x.satisfy(1, 0, 0, 0));
        ANSWERS.dueSame("alone again", Answers.list(10), Answers.itemsOf(x));
        ANSWERS.due("another policy", 1, Answers.read(x, "older(3)"));
        ANSWERS.due("no items", 0, x.satisfy(0, 0, 0, 3));
        ANSWERS.dueSame("empty", Answers.list(), Answers.itemsOf(x));
    }

    private static boolean isItem(int item) {
        return item == 0 || item == 1 || item >= 10 && item <= 17 || item >= 20 && item <= 29;
    }

    private static void noSuchItem() {
        ANSWERS.sentence("IllegalArgumentException: no such item");
        for (int item = -40; item <= 300; item++) {
            putOne(item);
        }
        for (int edge : EDGES) {
            putOne(edge);
        }
    }

    private static void putOne(int item) {
        PolicyForge x = new PolicyForge();
        x.put(21);
        ANSWERS.dueOf("put " + item, isItem(item) ? 2 : Answers.BAD_ARGUMENT, () -> x.put(item));
        ANSWERS.dueSame("items behind put " + item,
            isItem(item) ? Answers.list(21, item) : Answers.list(21), Answers.itemsOf(x));
    }

    private static void twentyFour() {
        ANSWERS.sentence("IllegalStateException: there are 24 or more");
        PolicyForge x = Answers.forgeOf("and(key(A),key(B))");
        x.satisfy(3, 0, 0, 0);
        for (int count = 3; count <= 24; count++) {
            ANSWERS.due("put", count, x.put(count % 2));
        }
        String before = Answers.stateOf(x);
        for (int edge : EDGES) {
            ANSWERS.dueOf("put " + edge, isItem(edge) ? Answers.BAD_STATE : Answers.BAD_ARGUMENT,
                () -> x.put(edge));
        }
        ANSWERS.dueSame("state", before, Answers.stateOf(x));
        ANSWERS.due("24 are too many for it", 3, x.check(0, 0));
        x.clear();
        ANSWERS.due("room again", 1, x.put(0));
    }

    private static void clearing() {
        ANSWERS.sentence("The witness is empty");
        PolicyForge x = Answers.forgeOf("key(A)");
        x.clear();
        ANSWERS.dueSame("nothing to clear", Answers.list(), Answers.itemsOf(x));
        x.satisfy(1, 0, 0, 0);
        x.check(0, 0);
        String before = Answers.stateOf(x);
        x.clear();
        ANSWERS.dueSame("the rest stays", before.replace("items [10]", "items []"),
            Answers.stateOf(x));
        ANSWERS.due("nothing to take", 0, x.check(0, 0));
        ANSWERS.due("the first again", 1, x.put(10));
        ANSWERS.due("accepted again", -1, x.check(0, 0));
    }

    private static void noItem() {
        ANSWERS.sentence("Item i of the witness, the top is 0. IndexOutOfBoundsException: there is "
            + "none");
        PolicyForge x = new PolicyForge();
        ANSWERS.dueOf("of an empty one", Answers.BAD_INDEX, () -> x.item(0));
        x.put(10);
        x.put(20);
        x.put(1);
        for (int edge : EDGES) {
            boolean there = edge >= 0 && edge < 3;
            ANSWERS.due("item " + edge, there,
                Answers.answerOf(() -> x.item(edge)) != Answers.BAD_INDEX);
        }
        ANSWERS.dueOf("the top", 10, () -> x.item(0));
        ANSWERS.dueOf("the lowest", 1, () -> x.item(2));
        ANSWERS.dueOf("below it", Answers.BAD_INDEX, () -> x.item(3));
    }

    private static void failedOrEnded() {
        ANSWERS.sentence("-1 if it is accepted; else the word that failed, or how many words there "
            + "are if nothing did");
        PolicyForge x = Answers.forgeOf("and(key(A),key(B))");
        ANSWERS.due("the first failed", 0, x.check(0, 0));
        x.put(10);
        ANSWERS.due("the last failed", 2, x.check(0, 0));
        x.put(0);
        ANSWERS.due("nothing failed, 0 is there", 3, x.check(0, 0));
        x.satisfy(3, 0, 0, 0);
        ANSWERS.due("accepted", -1, x.check(0, 0));
        x.put(1);
        ANSWERS.due("nothing failed, one is left", 3, x.check(0, 0));
    }

    private static void witnessStays() {
        ANSWERS.sentence("(The witness stays.)");
        int[][] rows = {{}, {10}, {10, 11, 0}, {0, 0, 12}, {1, 1, 1}, {10, 11, 12, 29}};
        for (int[] row : rows) {
            PolicyForge x = Answers.forgeOf("thr(2,key(A),key(B),key(C))");
            for (int item : row) {
                x.put(item);
            }
            int first = x.check(0, 0);
            int done = x.done();
            ANSWERS.dueSame("items", Answers.list(row), Answers.itemsOf(x));
            ANSWERS.due("once more", first, x.check(0, 0));
            ANSWERS.due("as many words", done, x.done());
        }
        PolicyForge x = Answers.forgeOf("key(A)");
        x.satisfy(1, 0, 0, 0);
        ANSWERS.due("another policy", 3, Answers.read(x, "and(key(A),key(B))"));
        ANSWERS.due("the witness of the one before", 2, x.check(0, 0));
    }

    private static void doneOfTheLatest() {
        ANSWERS.sentence("How many words the latest check() did (with one that failed); 0 if there "
            + "was none");
        PolicyForge x = Answers.forgeOf("and(key(A),key(B))");
        x.satisfy(3, 0, 0, 0);
        ANSWERS.due("none yet", 0, x.done());
        ANSWERS.due("accepted", -1, x.check(0, 0));
        ANSWERS.due("all", 3, x.done());
        x.clear();
        ANSWERS.due("the same check still", 3, x.done());
        ANSWERS.due("empty", 0, x.check(0, 0));
        ANSWERS.due("the one that failed", 1, x.done());
        fails(x, "?");
        ANSWERS.dueOf("refused", Answers.NOTHING_THERE, () -> x.check(0, 0));
        ANSWERS.due("the latest that went", 1, x.done());
    }

    private static void anySetsAndTimes() {
        ANSWERS.sentence("keys and secrets as bits (A, 0 the lowest)");
        for (int sets : EDGES) {
            for (int height : EDGES) {
                PolicyForge x = Answers.forgeOf(MIXED);
                for (int age : EDGES) {
                    compare(x, sets, ~sets, height, age);
                    compare(x, ~sets, sets, height, age);
                }
            }
        }
    }

    /** Weights: A's signature 9, the secret of 9 with ONE 6, the times ONE; EMPTY if not. */
    private static void compare(PolicyForge x, int keys, int secrets, int height, int age) {
        boolean key = (keys & 1) != 0;
        boolean secret = (secrets & 1 << 9) != 0;
        boolean times = height >= 1 && age >= 999;
        int held = (key ? 1 : 0) + (secret ? 1 : 0) + (times ? 1 : 0);
        int weight = secret && times ? 8 : times ? 11 : 16;
        String what = keys + ", " + secrets + ", " + height + ", " + age;
        ANSWERS.due("holds " + what, held >= 2, x.holds(keys, secrets, height, age));
        ANSWERS.due("satisfy " + what, held >= 2 ? weight : -1,
            x.satisfy(keys, secrets, height, age));
        if (held >= 2) {
            ANSWERS.due("check " + what, -1, x.check(height, age));
        }
    }

    /** The whole of one object's time: 64 rounds of eight calls, the last one as good as any. */
    private static void lastCalls() {
        ANSWERS.sentence("An object is used for at most 512 calls after it has been made");
        PolicyForge x = new PolicyForge();
        for (int round = 0; round < 64; round++) {
            int key = round % 8;
            int name = 'A' + key << 24 | ')' << 16;
            ANSWERS.due("text", true, x.text('k' << 24 | 'e' << 16 | 'y' << 8 | '(', name, 0, 0, 0));
            ANSWERS.due("read", 1, x.read());
            ANSWERS.due("word", 1000 + key, x.word(0));
            ANSWERS.due("satisfy", 9, x.satisfy(1 << key, 0, 0, 0));
            ANSWERS.due("check", -1, x.check(0, 0));
            ANSWERS.due("put", 2, x.put(0));
            ANSWERS.due("check of two items", 1, x.check(0, 0));
            ANSWERS.due("done", 1, x.done());
        }
    }
}
