import java.util.Arrays;

/** Promises 8 to 11: satisfy, put, clear, item. */
public final class WitnessTest {
    private static final Answers ANSWERS = new Answers();

    public static void main(String[] args) {
        lightest();
        ties();
        none();
        putting();
        wrongItems();
        full();
        ANSWERS.end();
    }

    private static void witness(String what, PolicyForge x, int... items) {
        for (int i = 0; i < items.length; i++) {
            int place = i;
            ANSWERS.dueOf(what + " item " + i, items[i], () -> x.item(place));
        }
        ANSWERS.dueOf(what + " item behind", Answers.BAD_INDEX, () -> x.item(items.length));
        ANSWERS.dueOf(what + " item before", Answers.BAD_INDEX, () -> x.item(-1));
    }

    private static void satisfy(String text, int[] facts, int weight, int... items) {
        PolicyForge x = Answers.forgeOf(text);
        String what = text + " " + Arrays.toString(facts);
        ANSWERS.due(what, weight, x.satisfy(facts[0], facts[1], facts[2], facts[3]));
        witness(what, x, items);
    }

    private static int[] facts(int keys, int secrets, int height, int age) {
        return new int[] {keys, secrets, height, age};
    }

    private static void lightest() {
        satisfy("key(H)", facts(128, 0, 0, 0), 9, 17);
        satisfy("hash(9)", facts(0, 512, 0, 0), 5, 29);
        satisfy("after(5)", facts(0, 0, 5, 0), 0);
        satisfy("older(5)", facts(0, 0, 0, 6), 0);
        satisfy("and(key(A),key(B))", facts(3, 0, 0, 0), 18, 10, 11);
        satisfy("and(key(A),or(key(B),key(C)))", facts(7, 0, 0, 0), 18, 11, 10);
        satisfy("and(key(A),or(key(B),key(C)))", facts(5, 0, 0, 0), 19, 0, 12, 10);
        satisfy("or(key(A),key(B))", facts(3, 0, 0, 0), 9, 10);
        satisfy("or(key(A),key(B))", facts(2, 0, 0, 0), 10, 0, 11);
        satisfy("or(key(A),after(5))", facts(1, 0, 5, 0), 1, 0);
        satisfy("or(key(A),after(5))", facts(1, 0, 4, 0), 9, 10);
        satisfy("or(hash(1),hash(2))", facts(0, 2, 0, 0), 6, 1, 21);
        satisfy("or(hash(1),hash(2))", facts(0, 4, 0, 0), 6, 0, 22);
        satisfy("thr(2,key(A),key(B),hash(3))", facts(3, 8, 0, 0), 16, 0, 11, 1, 23);
        satisfy("thr(1,or(key(A),after(5)),key(B))", facts(2, 0, 0, 0), 11, 1, 0, 11);
        satisfy("thr(1,or(after(5),key(A)),key(B))", facts(2, 0, 0, 0), 11, 0, 0, 11);
        satisfy("thr(1,and(key(A),after(5)),key(B))", facts(2, 0, 0, 0), 10, 0, 11);
        satisfy("thr(1,thr(1,key(A),key(C)),key(B))", facts(2, 0, 0, 0), 11, 0, 0, 11);
        satisfy("thr(1,or(and(key(A),key(B)),key(C)),key(H))", facts(4, 0, 0, 0), 11, 0, 12, 0);
    }

    private static void ties() {
        satisfy("thr(1,key(A),key(B))", facts(3, 0, 0, 0), 10, 0, 11);
        satisfy("thr(1,key(A),key(A))", facts(1, 0, 0, 0), 10, 0, 10);
        satisfy("thr(2,key(A),key(B),key(C))", facts(7, 0, 0, 0), 19, 0, 11, 12);
        satisfy("or(hash(1),hash(2))", facts(0, 6, 0, 0), 6, 0, 22);
        satisfy("or(after(1),older(1))", facts(0, 0, 1, 1), 1, 0);
        satisfy("or(or(hash(5),hash(4)),or(hash(3),hash(2)))", facts(0, 60, 0, 0), 7, 0, 0, 22);
    }

    private static void none() {
        PolicyForge x = Answers.forgeOf("or(key(A),and(key(B),after(5)))");
        ANSWERS.due("put", 1, x.put(29));
        ANSWERS.due("none", -1, x.satisfy(2, -1, 4, 999));
        witness("the one before stays", x, 29);
        ANSWERS.due("one", 9, x.satisfy(1, 0, 0, 0));
        witness("it takes its place", x, 10);
        ANSWERS.due("none again", -1, x.satisfy(0, 0, 0, 0));
        witness("the satisfying one stays", x, 10);
        ANSWERS.due("a fault", Answers.BAD_ARGUMENT, Answers.read(x, "("));
        ANSWERS.dueOf("satisfy without one", Answers.NOTHING_THERE, () -> x.satisfy(1, 0, 0, 0));
        witness("it stays without a policy", x, 10);
        ANSWERS.due("weightless", 1, Answers.read(x, "after(1)"));
        ANSWERS.due("empty witness", 0, x.satisfy(0, 0, 1, 0));
        witness("empty", x);
    }

    private static void putting() {
        PolicyForge x = new PolicyForge();
        int[] items = {0, 1, 10, 17, 20, 29};
        for (int i = 0; i < items.length; i++) {
            ANSWERS.due("put " + items[i], i + 1, x.put(items[i]));
        }
        witness("put", x, items);
        x.clear();
        witness("cleared", x);
        ANSWERS.due("put behind clear", 1, x.put(1));
        witness("put again", x, 1);
        PolicyForge y = Answers.forgeOf("and(key(A),key(B))");
        y.satisfy(3, 0, 0, 0);
        ANSWERS.due("put below", 3, y.put(0));
        witness("below", y, 10, 11, 0);
    }

    private static void wrongItems() {
        PolicyForge x = new PolicyForge();
        int[] no = {-1, 2, 9, 18, 19, 30, Integer.MIN_VALUE, Integer.MAX_VALUE};
        for (int item : no) {
            ANSWERS.dueOf("put " + item, Answers.BAD_ARGUMENT, () -> x.put(item));
        }
        witness("nothing was put", x);
        ANSWERS.dueOf("item", Answers.BAD_INDEX, () -> x.item(Integer.MIN_VALUE));
        ANSWERS.dueOf("item", Answers.BAD_INDEX, () -> x.item(Integer.MAX_VALUE));
    }

    private static void full() {
        PolicyForge x = new PolicyForge();
        for (int i = 1; i <= 24; i++) {
            ANSWERS.due("put", i, x.put(i % 2));
        }
        ANSWERS.dueOf("the 25th", Answers.BAD_STATE, () -> x.put(0));
        ANSWERS.dueOf("no item, the 25th", Answers.BAD_ARGUMENT, () -> x.put(2));
        ANSWERS.dueOf("the last", 0, () -> x.item(23));
        ANSWERS.dueOf("behind the last", Answers.BAD_INDEX, () -> x.item(24));
        x.clear();
        ANSWERS.due("put", 1, x.put(1));
    }
}
