import java.util.ArrayList;
import java.util.List;
import java.util.Random;

/** Promises 3 to 13 on many policies, texts and witnesses, against the oracle. */
public final class RandomPoliciesTest {
    private static final Answers ANSWERS = new Answers();
    private static final Random RANDOM = new Random(20261115);
    private static final String[] LEAVES = {"key", "key", "hash", "after", "older"};
    private static final String[] OTHERS = {"and", "or", "or", "thr", "thr"};

    public static void main(String[] args) {
        int made = 0;
        PolicyForge forge = new PolicyForge();
        for (int i = 0; i < 1500; i++) {
            Oracle.Policy policy = policy(1 + RANDOM.nextInt(10));
            String text = policy.text();
            if (i % 7 == 0) {
                forge = new PolicyForge();
            }
            if (text.length() <= 100) {
                made++;
                compare(forge, policy, text);
            }
            compareFault(forge, changed(text));
        }
        ANSWERS.due("enough policies", true, made > 800);
        ANSWERS.end();
    }

    private static Oracle.Policy policy(int leaves) {
        if (leaves == 1) {
            return leaf(LEAVES[RANDOM.nextInt(LEAVES.length)]);
        }
        String name = OTHERS[RANDOM.nextInt(OTHERS.length)];
        int most = name.equals("thr") ? Math.min(4, leaves) : 2;
        int count = 2 + RANDOM.nextInt(most - 1);
        List<Oracle.Policy> parts = new ArrayList<>();
        int left = leaves;
        for (int i = count; i > 0; i--) {
            int share = i == 1 ? left : 1 + RANDOM.nextInt(left - i + 1);
            left -= share;
            parts.add(policy(share));
        }
        int number = name.equals("thr") ? 1 + RANDOM.nextInt(count) : 0;
        return new Oracle.Policy(name, number, parts);
    }

    private static Oracle.Policy leaf(String name) {
        int number = switch (name) {
            case "key" -> RANDOM.nextInt(8);
            case "hash" -> RANDOM.nextInt(10);
            default -> 1 + RANDOM.nextInt(9);
        };
        return new Oracle.Policy(name, number, List.of());
    }

    private static void compare(PolicyForge forge, Oracle.Policy policy, String text) {
        Oracle.Forms forms = Oracle.forms(policy);
        List<Integer> words = forms.b().words();
        ANSWERS.due("read " + text, words.size(), Answers.read(forge, text));
        if (forge.fault() != -1) {
            return;
        }
        for (int i = 0; i < words.size(); i++) {
            ANSWERS.due(text + " word " + i, words.get(i), forge.word(i));
        }
        ANSWERS.dueOf(text + " word behind", Answers.BAD_INDEX, () -> forge.word(words.size()));
        int[] sizes = {policy.leaves(), words.size(), forms.d().words().size(),
            forms.v().words().size(), forms.b().weight(), forms.d().weight(), forms.v().weight(),
            policy.size()};
        for (int i = 0; i < sizes.length; i++) {
            ANSWERS.due(text + " size " + i, sizes[i], forge.size(i));
        }
        for (int i = 0; i < 6; i++) {
            Oracle.Facts facts = new Oracle.Facts(someBits(), someBits(),
                RANDOM.nextInt(12) - 1, RANDOM.nextInt(12) - 1);
            compareWitness(forge, policy, forms.b(), facts);
            compareChecks(forge, words);
        }
    }

    private static int someBits() {
        return RANDOM.nextInt() | (RANDOM.nextBoolean() ? RANDOM.nextInt() : 0);
    }

    private static void compareWitness(PolicyForge forge, Oracle.Policy policy, Oracle.Way way,
                                       Oracle.Facts facts) {
        String what = policy.text() + " " + facts;
        ANSWERS.due(what + " holds", policy.holds(facts),
            forge.holds(facts.keys(), facts.secrets(), facts.height(), facts.age()));
        List<Integer> before = Answers.itemsOf(forge);
        List<Integer> lightest = Oracle.lightest(way, facts);
        ANSWERS.due(what + " has one", policy.holds(facts), lightest != null);
        ANSWERS.due(what + " satisfy", lightest == null ? -1 : Oracle.weight(lightest),
            forge.satisfy(facts.keys(), facts.secrets(), facts.height(), facts.age()));
        List<Integer> due = lightest == null ? before : lightest;
        ANSWERS.dueSame(what + " witness", due, Answers.itemsOf(forge));
        if (lightest != null) {
            ANSWERS.due(what + " accepted", -1, forge.check(facts.height(), facts.age()));
        }
    }

    /** With the witness as it is, and with one that was changed somewhere. */
    private static void compareChecks(PolicyForge forge, List<Integer> words) {
        compareCheck(forge, words);
        List<Integer> items = Answers.itemsOf(forge);
        if (!items.isEmpty() && RANDOM.nextInt(3) > 0) {
            items.set(RANDOM.nextInt(items.size()), someItem());
        } else if (!items.isEmpty() && RANDOM.nextBoolean()) {
            items.remove(RANDOM.nextInt(items.size()));
        } else {
            items.add(RANDOM.nextInt(items.size() + 1), someItem());
        }
        forge.clear();
        for (int i = 0; i < Math.min(24, items.size()); i++) {
            ANSWERS.due("put", i + 1, forge.put(items.get(i)));
        }
        compareCheck(forge, words);
    }

    private static int someItem() {
        int item = RANDOM.nextInt(22);
        return item < 4 ? item % 2 : item < 12 ? item + 6 : item + 8;
    }

    private static void compareCheck(PolicyForge forge, List<Integer> words) {
        int height = RANDOM.nextInt(12);
        int age = RANDOM.nextInt(12);
        List<Integer> items = Answers.itemsOf(forge);
        int[] due = Oracle.check(words, items, height, age);
        String what = words + " with " + items + " at " + height + ", " + age;
        ANSWERS.due(what + " check", due[0], forge.check(height, age));
        ANSWERS.due(what + " done", due[1], forge.done());
        ANSWERS.dueSame(what + " witness stays", items, Answers.itemsOf(forge));
    }

    private static String changed(String text) {
        StringBuilder changed = new StringBuilder(text);
        for (int i = RANDOM.nextInt(3); i > 0; i--) {
            String pieces = "kehyaftrsoldn()(),0123456789ABHIPx";
            int place = RANDOM.nextInt(changed.length());
            char piece = pieces.charAt(RANDOM.nextInt(pieces.length()));
            switch (RANDOM.nextInt(5)) {
                case 0 -> changed.insert(place, piece);
                case 1 -> changed.deleteCharAt(place);
                case 2 -> changed.setLength(place + 1);
                case 3 -> changed.insert(place, policy(1 + RANDOM.nextInt(3)).text());
                default -> changed.setCharAt(place, piece);
            }
            if (changed.length() == 0) {
                changed.append(piece);
            }
        }
        if (RANDOM.nextInt(4) == 0) {
            changed.insert(0, "or(".repeat(RANDOM.nextInt(20)));
        }
        changed.setLength(Math.min(100, changed.length()));
        return changed.toString();
    }

    private static void compareFault(PolicyForge forge, String text) {
        int due = Oracle.fault(text);
        boolean read = Answers.read(forge, text) != Answers.BAD_ARGUMENT;
        ANSWERS.due("read " + text, due == -1, read);
        ANSWERS.due("fault " + text, due, forge.fault());
        ANSWERS.due("policy " + text, read, hasPolicy(forge));
    }

    private static boolean hasPolicy(PolicyForge forge) {
        try {
            return forge.size(0) > 0;
        } catch (java.util.NoSuchElementException e) {
            return false;
        }
    }
}
