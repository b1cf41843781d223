import java.util.ArrayDeque;
import java.util.ArrayList;
import java.util.Comparator;
import java.util.Deque;
import java.util.HashMap;
import java.util.List;
import java.util.Map;
import java.util.function.Function;
import java.util.regex.Matcher;
import java.util.regex.Pattern;

/**
 * The document said once more, as plainly as can be: every way is written out, every witness is
 * listed, and the best one is looked for among all of them.
 */
final class Oracle {
    record Facts(int keys, int secrets, int height, int age) {
        static final Facts ALL = new Facts(-1, -1, 999, 999);
    }

    record Policy(String name, int number, List<Policy> parts) {
        String text() {
            if (parts.isEmpty()) {
                return name + "(" + (name.equals("key") ? "" + (char) ('A' + number) : number) + ")";
            }
            StringBuilder inside = new StringBuilder(name.equals("thr") ? number + "," : "");
            for (int i = 0; i < parts.size(); i++) {
                inside.append(i == 0 ? "" : ",").append(parts.get(i).text());
            }
            return name + "(" + inside + ")";
        }

        int leaves() {
            return parts.isEmpty() ? 1 : parts.stream().mapToInt(Policy::leaves).sum();
        }

        int size() {
            return 1 + parts.stream().mapToInt(Policy::size).sum();
        }

        boolean holds(Facts facts) {
            long holding = parts.stream().filter(part -> part.holds(facts)).count();
            return switch (name) {
                case "key" -> (facts.keys >> number & 1) == 1;
                case "hash" -> (facts.secrets >> number & 1) == 1;
                case "after" -> facts.height >= number;
                case "older" -> facts.age >= number;
                case "and" -> holding == 2;
                case "or" -> holding >= 1;
                default -> holding >= number;
            };
        }
    }

    /** Words, all witnesses that satisfy them under some facts, and the one that dissatisfies. */
    record Way(List<Integer> words, Function<Facts, List<List<Integer>>> witnesses,
               List<Integer> refusal) {
        int weight() {
            return witnesses.apply(Facts.ALL).stream().mapToInt(Oracle::weight).max().orElse(-1);
        }
    }

    record Forms(Way b, Way d, Way v) { }

    private static final List<List<Integer>> NO_WITNESS = List.of();
    private static final Map<String, Integer> OPERATIONS = new HashMap<>();

    static {
        String[] names = {"KEY", "HASH", "AFTER", "OLDER", "VERIFY", "AND", "OR", "ADD", "SAME",
            "ASIDE", "BACK", "IF", "ELSE", "END", "UNLESS", "TWICE", "ZERO"};
        for (int i = 0; i < names.length; i++) {
            OPERATIONS.put(names[i], i + 1);
        }
    }

    static int weight(List<Integer> witness) {
        return witness.stream().mapToInt(item -> item < 10 ? 1 : item < 20 ? 9 : 5).sum();
    }

    static List<Integer> lightest(Way way, Facts facts) {
        Comparator<List<Integer>> order = Comparator.comparingInt(Oracle::weight);
        return way.witnesses.apply(facts).stream().min(order.thenComparing(Oracle::compare))
            .orElse(null);
    }

    private static int compare(List<Integer> one, List<Integer> other) {
        for (int i = 0; i < Math.min(one.size(), other.size()); i++) {
            if (!one.get(i).equals(other.get(i))) {
                return one.get(i) - other.get(i);
            }
        }
        return one.size() - other.size();
    }

    static Forms forms(Policy policy) {
        List<Forms> parts = policy.parts.stream().map(Oracle::forms).toList();
        List<Way> waysOfD = waysOfD(policy, parts);
        List<Way> waysOfB = waysOfB(policy, parts);
        waysOfB.addAll(waysOfD);
        Way b = best(waysOfB);
        waysOfD.add(new Way(words("IF", b, "ELSE", "ZERO", "END"),
            facts -> join(one(1), b.witnesses.apply(facts)), List.of(0)));
        List<Way> waysOfV = waysOfV(policy, parts);
        waysOfV.add(new Way(words(b, "VERIFY"), b.witnesses, null));
        return new Forms(b, best(waysOfD), best(waysOfV));
    }

    private static Way best(List<Way> ways) {
        Way best = ways.get(0);
        for (Way way : ways) {
            int difference = way.words.size() - best.words.size();
            if (difference < 0 || difference == 0 && way.weight() < best.weight()) {
                best = way;
            }
        }
        return best;
    }

    private static List<Way> waysOfD(Policy policy, List<Forms> parts) {
        List<Way> ways = new ArrayList<>();
        if (policy.name.equals("key")) {
            ways.add(new Way(List.of(1000 + policy.number),
                facts -> policy.holds(facts) ? one(10 + policy.number) : NO_WITNESS, List.of(0)));
        } else if (policy.name.equals("thr")) {
            ways.add(threshold(policy.number, parts));
        } else if (!parts.isEmpty()) {
            Forms x = parts.get(0);
            Forms y = parts.get(1);
            List<Integer> both = row(x.d.refusal, y.d.refusal);
            if (policy.name.equals("and")) {
                ways.add(new Way(words(x.d, "ASIDE", y.d, "BACK", "AND"), behind(x.d, y.d), both));
            } else {
                ways.add(new Way(words(x.d, "ASIDE", y.d, "BACK", "OR"), facts -> either(
                    join(x.d.witnesses.apply(facts), List.of(y.d.refusal)),
                    join(List.of(x.d.refusal), y.d.witnesses.apply(facts))), both));
                ways.add(new Way(words(x.d, "TWICE", "UNLESS", y.d, "END"),
                    unless(x.d, y.d), both));
                ways.add(new Way(words("IF", x.d, "ELSE", y.b, "END"), branches(x.d, y.b),
                    row(List.of(1), x.d.refusal)));
                ways.add(new Way(words("IF", x.b, "ELSE", y.d, "END"), branches(x.b, y.d),
                    row(List.of(0), y.d.refusal)));
            }
        }
        return ways;
    }

    private static Way threshold(int need, List<Forms> parts) {
        List<Integer> words = new ArrayList<>(parts.get(0).d.words);
        List<Integer> refusal = new ArrayList<>(parts.get(0).d.refusal);
        for (Forms part : parts.subList(1, parts.size())) {
            words.addAll(words("ASIDE", part.d, "BACK", "ADD"));
            refusal.addAll(part.d.refusal);
        }
        words.add(9000 + need);
        return new Way(words, facts -> exactly(need, parts, facts), refusal);
    }

    private static List<List<Integer>> exactly(int need, List<Forms> parts, Facts facts) {
        if (need < 0 || need > parts.size()) {
            return NO_WITNESS;
        }
        if (parts.isEmpty()) {
            return List.of(List.of());
        }
        Way first = parts.get(0).d;
        List<Forms> rest = parts.subList(1, parts.size());
        return either(join(first.witnesses.apply(facts), exactly(need - 1, rest, facts)),
            join(List.of(first.refusal), exactly(need, rest, facts)));
    }

    private static List<Way> waysOfB(Policy policy, List<Forms> parts) {
        List<Way> ways = new ArrayList<>();
        Forms x = parts.isEmpty() ? null : parts.get(0);
        Forms y = parts.isEmpty() ? null : parts.get(1);
        switch (policy.name) {
            case "hash" -> ways.add(new Way(List.of(2000 + policy.number),
                facts -> policy.holds(facts) ? one(20 + policy.number) : NO_WITNESS, null));
            case "after", "older" -> ways.add(new Way(
                List.of((policy.name.equals("after") ? 3000 : 4000) + policy.number),
                facts -> policy.holds(facts) ? List.of(List.of()) : NO_WITNESS, null));
            case "and" -> {
                ways.add(new Way(words(x.v, y.b), behind(x.v, y.b), null));
                ways.add(new Way(words(y.v, x.b), behind(y.v, x.b), null));
            }
            case "or" -> {
                ways.add(new Way(words(x.d, "TWICE", "UNLESS", y.b, "END"), unless(x.d, y.b), null));
                ways.add(new Way(words(y.d, "TWICE", "UNLESS", x.b, "END"), unless(y.d, x.b), null));
                ways.add(new Way(words("IF", x.b, "ELSE", y.b, "END"), branches(x.b, y.b), null));
            }
            case "thr" -> {
                if (policy.number == parts.size()) {
                    Way all = parts.get(parts.size() - 1).b;
                    for (int i = parts.size() - 2; i >= 0; i--) {
                        all = new Way(words(parts.get(i).v, all), behind(parts.get(i).v, all), null);
                    }
                    ways.add(all);
                }
            }
            default -> { }
        }
        return ways;
    }

    private static List<Way> waysOfV(Policy policy, List<Forms> parts) {
        List<Way> ways = new ArrayList<>();
        if (policy.name.equals("and")) {
            Way x = parts.get(0).v;
            Way y = parts.get(1).v;
            ways.add(new Way(words(x, y), behind(x, y), null));
        } else if (policy.name.equals("or")) {
            Forms x = parts.get(0);
            Forms y = parts.get(1);
            ways.add(new Way(words(x.d, "UNLESS", y.v, "END"), unless(x.d, y.v), null));
            ways.add(new Way(words("IF", x.v, "ELSE", y.v, "END"), branches(x.v, y.v), null));
        }
        return ways;
    }

    /** The word of an operation, its argument behind a point: END, KEY.A, SAME.2. */
    static int word(String text) {
        int point = text.indexOf('.');
        if (point < 0) {
            return 1000 * OPERATIONS.get(text);
        }
        String argument = text.substring(point + 1);
        boolean key = Character.isLetter(argument.charAt(0));
        return 1000 * OPERATIONS.get(text.substring(0, point))
            + (key ? argument.charAt(0) - 'A' : Integer.parseInt(argument));
    }

    private static List<Integer> words(Object... pieces) {
        List<Integer> words = new ArrayList<>();
        for (Object piece : pieces) {
            if (piece instanceof Way way) {
                words.addAll(way.words);
            } else {
                words.add(word((String) piece));
            }
        }
        return words;
    }

    private static Function<Facts, List<List<Integer>>> behind(Way x, Way y) {
        return facts -> join(x.witnesses.apply(facts), y.witnesses.apply(facts));
    }

    private static Function<Facts, List<List<Integer>>> unless(Way x, Way y) {
        return facts -> either(x.witnesses.apply(facts),
            join(List.of(x.refusal), y.witnesses.apply(facts)));
    }

    private static Function<Facts, List<List<Integer>>> branches(Way x, Way y) {
        return facts -> either(join(one(1), x.witnesses.apply(facts)),
            join(one(0), y.witnesses.apply(facts)));
    }

    private static List<List<Integer>> one(int item) {
        return List.of(List.of(item));
    }

    private static List<Integer> row(List<Integer> first, List<Integer> second) {
        List<Integer> row = new ArrayList<>(first);
        row.addAll(second);
        return row;
    }

    private static List<List<Integer>> either(List<List<Integer>> some, List<List<Integer>> others) {
        List<List<Integer>> all = new ArrayList<>(some);
        all.addAll(others);
        return all;
    }

    private static List<List<Integer>> join(List<List<Integer>> some, List<List<Integer>> others) {
        List<List<Integer>> all = new ArrayList<>();
        for (List<Integer> first : some) {
            for (List<Integer> second : others) {
                all.add(row(first, second));
            }
        }
        return all;
    }

    /** What check() answers and what done() does behind it. */
    static int[] check(List<Integer> words, List<Integer> witness, int height, int age) {
        int[] goal = goals(words);
        Deque<Integer> stack = new ArrayDeque<>(witness);
        Deque<Integer> side = new ArrayDeque<>();
        int done = 0;
        int at = 0;
        while (at < words.size()) {
            done++;
            int operation = words.get(at) / 1000;
            int argument = words.get(at) % 1000;
            int next = at + 1;
            int[] takes = {0, 1, 1, 0, 0, 1, 2, 2, 2, 1, 1, 0, 1, 0, 0, 1, 1, 0};
            if (stack.size() < takes[operation] || operation == 11 && side.isEmpty()) {
                return new int[] {at, done};
            }
            int top = takes[operation] > 0 ? stack.pop() : 0;
            int under = takes[operation] > 1 ? stack.pop() : 0;
            boolean number = operation >= 5 && operation <= 9 || operation == 15;
            boolean fails = number && (top >= 10 || under >= 10)
                || operation == 1 && top != 0 && top != 10 + argument
                || operation == 3 && height < argument || operation == 4 && age < argument
                || operation == 5 && top == 0 || operation == 12 && top != 0 && top != 1;
            if (fails) {
                return new int[] {at, done};
            }
            switch (operation) {
                case 1 -> stack.push(top == 0 ? 0 : 1);
                case 2 -> stack.push(top == 20 + argument ? 1 : 0);
                case 3, 4 -> stack.push(1);
                case 6 -> stack.push(top != 0 && under != 0 ? 1 : 0);
                case 7 -> stack.push(top != 0 || under != 0 ? 1 : 0);
                case 8 -> stack.push(top + under);
                case 9 -> stack.push(top == argument ? 1 : 0);
                case 10 -> side.push(top);
                case 11 -> stack.push(side.pop());
                case 12 -> next = top == 0 ? goal[at] : next;
                case 13 -> next = goal[at];
                case 15 -> next = top != 0 ? goal[at] : next;
                case 16 -> {
                    stack.push(top);
                    if (top != 0) {
                        stack.push(top);
                    }
                }
                case 17 -> stack.push(0);
                default -> { }
            }
            at = next;
        }
        boolean accepted = stack.size() == 1 && stack.peek() == 1 && side.isEmpty();
        return new int[] {accepted ? -1 : words.size(), done};
    }

    private static int[] goals(List<Integer> words) {
        int[] goal = new int[words.size()];
        Deque<Integer> open = new ArrayDeque<>();
        for (int i = 0; i < words.size(); i++) {
            int operation = words.get(i) / 1000;
            if (operation == 13 || operation == 14) {
                goal[open.pop()] = i + 1;
            }
            if (operation == 12 || operation == 13 || operation == 15) {
                open.push(i);
            }
        }
        return goal;
    }

    private static final Pattern PART = Pattern.compile("key\\([A-H]\\)|hash\\([0-9]\\)"
        + "|(after|older)\\((?!0+\\))[0-9]{1,3}\\)|(and|or)\\(P,P\\)"
        + "|thr\\([12],P,P\\)|thr\\([123],P,P,P\\)|thr\\([1234],P,P,P,P\\)");
    private static final Pattern LEAF = Pattern.compile("(key|hash|after|older)\\(");
    private static final Pattern BEGINNING = Pattern.compile(
        "((and|or)\\((P,)?|thr\\([1-9],(P,){0,3})*"
        + "(|P|k|ke|key|key\\([A-H]?|h|ha|has|hash|hash\\([0-9]?|a|af|aft|afte|after"
        + "|o|or|ol|old|olde|older|(after|older)\\((?!000)[0-9]{0,3}|an|and|th?|thr|thr\\([1-9]?)");

    /** The fault's place by the words of the document: each beginning is looked at. */
    static int fault(String text) {
        for (int end = 1; end <= text.length(); end++) {
            Matcher leaf = LEAF.matcher(text.substring(0, end));
            int leaves = 0;
            while (leaf.find()) {
                leaves++;
                if (leaves == 11 && isBeginning(text.substring(0, end))) {
                    return leaf.start();
                }
            }
            if (!isBeginning(text.substring(0, end))) {
                return end - 1;
            }
        }
        return reduced(text).equals("P") ? -1 : text.length();
    }

    private static boolean isBeginning(String text) {
        String reduced = reduced(text);
        boolean whole = reduced.equals("P");
        boolean loose = reduced.startsWith("P") && !whole;
        return whole || !loose && BEGINNING.matcher(reduced).matches();
    }

    private static String reduced(String text) {
        // What was typed may hold the letter that stands for a part here.
        String reduced = text.replace('P', '%');
        String before;
        do {
            before = reduced;
            reduced = PART.matcher(reduced).replaceAll("P");
        } while (!reduced.equals(before));
        return reduced;
    }
}
