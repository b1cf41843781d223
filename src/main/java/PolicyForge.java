import java.util.NoSuchElementException;

/**
 * Puts policies of spending into scripts, tells the lightest witness that a script accepts, and
 * goes through a script with any witness.
 *
 * <p>All rows are made once, in the constructor, and used again by every call: no call makes an
 * object but an exception that it throws.
 */
public final class PolicyForge {

    // The operations of words. A part's kind is the operation that says it (a leaf) or joins its
    // parts (AND, OR, and ADD for thr), so that one number serves both.
    private static final int KEY = 1;
    private static final int HASH = 2;
    private static final int AFTER = 3;
    private static final int OLDER = 4;
    private static final int VERIFY = 5;
    private static final int AND = 6;
    private static final int OR = 7;
    private static final int ADD = 8;
    private static final int SAME = 9;
    private static final int ASIDE = 10;
    private static final int BACK = 11;
    private static final int IF = 12;
    private static final int ELSE = 13;
    private static final int END = 14;
    private static final int UNLESS = 15;
    private static final int TWICE = 16;
    private static final int ZERO = 17;

    private static final int[] KINDS = {KEY, HASH, AFTER, OLDER, AND, OR, ADD};
    private static final int NO_KIND = 0;
    private static final int WORD = 1000;

    // The rules by which a way puts the forms in it together.
    private static final int NO_WAY = 0;
    private static final int BY_LEAF = 1;
    private static final int BY_ROW = 2;
    private static final int BY_VERIFY = 3;
    private static final int BY_ASIDE = 4;
    private static final int BY_IF = 5;
    private static final int BY_ELSE_ZERO = 6;
    private static final int BY_TWICE = 7;
    private static final int BY_UNLESS = 8;

    // The items of witnesses.
    private static final int EMPTY = 0;
    private static final int ONE = 1;
    private static final int SIGNATURE = 10;
    private static final int KEYS = 8;
    private static final int SECRET = 20;
    private static final int SECRETS = 10;

    private static final int TYPED_MOST = 100;
    private static final int TYPED_AT_ONCE = 20;
    private static final int LEAVES_MOST = 10;
    // Every part that is no leaf joins two or more, so there are fewer of them than leaves.
    private static final int PARTS_MOST = 2 * LEAVES_MOST - 1;
    private static final int JOINED_LEAST = 2;
    private static final int JOINED_MOST = 4;
    private static final int PUT_MOST = 24;
    // A leaf takes two items at most, another part two beside those of its parts: 38 in all.
    private static final int ITEMS_MOST = 40;
    // Ten leaves of 5 words, 27 words to join them, 5 more for each other part, VERIFY: 123.
    private static final int WORDS_MOST = 128;
    // 100 characters open 33 parts at most; a form stands at most 20 forms deep.
    private static final int DEEPEST = 40;

    private final Reader reader = new Reader();
    private final Form trialForm = new Form(false);
    private final Row trialRow = new Row(ITEMS_MOST);
    private final Script script = new Script();
    private final Facts facts = new Facts();
    private final Row witness = new Row(ITEMS_MOST);
    private final Machine machine = new Machine();
    private Part policy = null;

    public PolicyForge() {
        witness.start();
    }

    public boolean text(int p, int q, int r, int s, int t) {
        int end = reader.typed(p, reader.length);
        end = reader.typed(q, end);
        end = reader.typed(r, end);
        end = reader.typed(s, end);
        end = reader.typed(t, end);
        if (end < 0 || end > TYPED_MOST) {
            return false;
        }
        reader.length = end;
        return true;
    }

    public int read() throws IllegalArgumentException {
        script.start();
        policy = reader.whole();
        if (policy == null) {
            throw new IllegalArgumentException();
        }
        // A part stands before the parts in it, whose forms have to be there first.
        for (int i = reader.used - 1; i >= 0; i--) {
            reader.parts[i].chooseForms(trialForm);
        }
        script.write(policy.formB, 0);
        return script.count;
    }

    public int fault() {
        return reader.place;
    }

    public boolean holds(int keys, int secrets, int height, int age) throws NoSuchElementException {
        if (policy == null) {
            throw new NoSuchElementException();
        }
        facts.set(keys, secrets, height, age);
        for (int i = reader.used - 1; i >= 0; i--) {
            reader.parts[i].weigh(facts);
        }
        return policy.held;
    }

    public int word(int i) throws IndexOutOfBoundsException {
        if (i < 0 || i >= script.count) {
            throw new IndexOutOfBoundsException();
        }
        return script.words[i];
    }

    public int size(int what) throws NoSuchElementException, IllegalArgumentException {
        if (policy == null) {
            throw new NoSuchElementException();
        }
        switch (what) {
            case 0: return reader.leaves;
            case 1: return policy.formB.words;
            case 2: return policy.formD.words;
            case 3: return policy.formV.words;
            case 4: return policy.formB.weight;
            case 5: return policy.formD.weight;
            case 6: return policy.formV.weight;
            case 7: return reader.used;
            default: throw new IllegalArgumentException();
        }
    }

    public int satisfy(int keys, int secrets, int height, int age) throws NoSuchElementException {
        if (policy == null) {
            throw new NoSuchElementException();
        }
        facts.set(keys, secrets, height, age);
        for (int i = 0; i < script.formCount; i++) {
            script.forms[i].lighten(facts, trialRow);
        }
        Row lightest = policy.formB.lightest;
        if (!lightest.made) {
            return -1;
        }
        witness.become(lightest);
        return witness.weight;
    }

    public int put(int item) throws IllegalArgumentException, IllegalStateException {
        if (!isItem(item)) {
            throw new IllegalArgumentException();
        }
        if (witness.count >= PUT_MOST) {
            throw new IllegalStateException();
        }
        witness.add(item);
        return witness.count;
    }

    public void clear() {
        witness.start();
    }

    public int item(int i) throws IndexOutOfBoundsException {
        if (i < 0 || i >= witness.count) {
            throw new IndexOutOfBoundsException();
        }
        return witness.items[i];
    }

    public int check(int height, int age) throws NoSuchElementException {
        if (policy == null) {
            throw new NoSuchElementException();
        }
        facts.set(0, 0, height, age);
        return machine.run(script, witness, facts);
    }

    public int done() {
        return machine.steps;
    }

    private static boolean isItem(int item) {
        return item == EMPTY || item == ONE
            || (item >= SIGNATURE && item < SIGNATURE + KEYS)
            || (item >= SECRET && item < SECRET + SECRETS);
    }

    private static boolean isLeaf(int kind) {
        return kind >= KEY && kind <= OLDER;
    }

    /** What a policy is held against. */
    private static final class Facts {
        int keys = 0;
        int secrets = 0;
        int height = 0;
        int age = 0;

        void set(int someKeys, int someSecrets, int aHeight, int anAge) {
            keys = someKeys;
            secrets = someSecrets;
            height = aHeight;
            age = anAge;
        }

        boolean meet(int kind, int number) {
            switch (kind) {
                case KEY: return ((keys >> number) & 1) == 1;
                case HASH: return ((secrets >> number) & 1) == 1;
                case AFTER: return height >= number;
                case OLDER: return age >= number;
                default: return false;
            }
        }
    }

    /** A row of items, the top first, or none (not made). */
    private static final class Row {
        final int[] items;
        int count = 0;
        int weight = 0;
        boolean made = false;

        Row(int room) {
            items = new int[room];
        }

        void start() {
            count = 0;
            weight = 0;
            made = true;
        }

        void add(int item) {
            if (count < items.length) {
                items[count] = item;
                count++;
                weight += weightOf(item);
            }
        }

        /** What lies behind a row that is none is none. */
        void join(Row other) {
            made = made && other.made;
            weight += other.weight;
            for (int i = 0; i < other.count && count < items.length; i++) {
                items[count] = other.items[i];
                count++;
            }
        }

        void become(Row other) {
            start();
            join(other);
        }

        void becomeIfLesser(Row other) {
            if (other.made && (!made || other.isLesser(this))) {
                become(other);
            }
        }

        private boolean isLesser(Row other) {
            if (weight != other.weight) {
                return weight < other.weight;
            }
            for (int i = 0; i < count && i < other.count; i++) {
                if (items[i] != other.items[i]) {
                    return items[i] < other.items[i];
                }
            }
            return count < other.count;
        }

        static int weightOf(int item) {
            if (item >= SECRET) {
                return 5;
            }
            return item >= SIGNATURE ? 9 : 1;
        }
    }

    /** One form of a part, said in the best of the ways that were offered to it. */
    private static final class Form {
        final Form[] taken = new Form[JOINED_MOST];
        final boolean denies;
        final Row refusal;
        final Row lightest = new Row(ITEMS_MOST);
        int rule = NO_WAY;
        // The word of a leaf, or the operation that joins what was laid aside.
        int mark = 0;
        // How many of the forms taken have to be satisfied, where their rule counts them.
        int need = 0;
        int count = 0;
        int words = 0;
        int weight = 0;

        Form(boolean isD) {
            denies = isD;
            refusal = new Row(isD ? ITEMS_MOST : 0);
        }

        Form start(int aRule, int aMark, int aNeed) {
            rule = aRule;
            mark = aMark;
            need = aNeed;
            count = 0;
            return this;
        }

        Form with(Form form) {
            if (count < JOINED_MOST) {
                taken[count] = form;
                count++;
            }
            return this;
        }

        void offer(Form other) {
            int otherWords = other.countWords();
            int otherWeight = other.greatestWeight();
            boolean better = rule == NO_WAY || otherWords < words
                || (otherWords == words && otherWeight < weight);
            if (better) {
                start(other.rule, other.mark, other.need);
                for (int i = 0; i < other.count; i++) {
                    with(other.taken[i]);
                }
                words = otherWords;
                weight = otherWeight;
            }
        }

        private int countWords() {
            int inside = 0;
            for (int i = 0; i < count; i++) {
                inside += taken[i].words;
            }
            switch (rule) {
                case BY_LEAF: return 1;
                case BY_VERIFY: return inside + 1;
                case BY_ASIDE: return inside + 3 * (count - 1) + (mark == ADD ? 1 : 0);
                case BY_IF: return inside + 3;
                case BY_ELSE_ZERO: return inside + 4;
                case BY_TWICE: return inside + 3;
                case BY_UNLESS: return inside + 2;
                default: return inside;
            }
        }

        private int greatestWeight() {
            switch (rule) {
                case BY_LEAF:
                    return leafWeight();
                case BY_IF:
                    return 1 + Math.max(taken[0].weight, taken[1].weight);
                case BY_ELSE_ZERO:
                    return 1 + taken[0].weight;
                case BY_TWICE:
                case BY_UNLESS:
                    return Math.max(taken[0].weight, taken[0].refusal.weight + taken[1].weight);
                default:
                    return greatestOfChoices();
            }
        }

        private int leafWeight() {
            int kind = mark / WORD;
            if (kind == KEY) {
                return Row.weightOf(SIGNATURE);
            }
            return kind == HASH ? Row.weightOf(SECRET) : 0;
        }

        /** Of all choices of as many as are needed; a bit of a choice tells a form's part in it. */
        private int greatestOfChoices() {
            int greatest = 0;
            for (int choice = 0; choice < 1 << count; choice++) {
                int sum = 0;
                for (int i = 0; i < count; i++) {
                    boolean chosen = ((choice >> i) & 1) == 1;
                    sum += chosen ? taken[i].weight : taken[i].refusal.weight;
                }
                if (Integer.bitCount(choice) == need && sum > greatest) {
                    greatest = sum;
                }
            }
            return greatest;
        }

        /** Tells what dissatisfies it: this hangs on the way alone, not on keys or times. */
        void makeRefusal() {
            refusal.start();
            if (rule == BY_LEAF || rule == BY_ELSE_ZERO) {
                refusal.add(EMPTY);
            } else if (rule == BY_IF) {
                boolean byFirst = taken[0].denies;
                refusal.add(byFirst ? ONE : EMPTY);
                refusal.join(byFirst ? taken[0].refusal : taken[1].refusal);
            } else {
                for (int i = 0; i < count; i++) {
                    refusal.join(taken[i].refusal);
                }
            }
        }

        /** Makes its lightest row; those of the forms taken have been made before. */
        void lighten(Facts facts, Row trial) {
            lightest.made = false;
            switch (rule) {
                case BY_LEAF:
                    lightenLeaf(facts);
                    break;
                case BY_IF:
                    tryBranch(trial, ONE, taken[0]);
                    tryBranch(trial, EMPTY, taken[1]);
                    break;
                case BY_ELSE_ZERO:
                    tryBranch(trial, ONE, taken[0]);
                    break;
                case BY_TWICE:
                case BY_UNLESS:
                    lightest.becomeIfLesser(taken[0].lightest);
                    trial.become(taken[0].refusal);
                    trial.join(taken[1].lightest);
                    lightest.becomeIfLesser(trial);
                    break;
                default:
                    lightenChoices(trial);
            }
        }

        private void lightenLeaf(Facts facts) {
            int kind = mark / WORD;
            int number = mark % WORD;
            if (!facts.meet(kind, number)) {
                return;
            }
            lightest.start();
            if (kind == KEY) {
                lightest.add(SIGNATURE + number);
            } else if (kind == HASH) {
                lightest.add(SECRET + number);
            }
        }

        private void tryBranch(Row trial, int item, Form branch) {
            trial.start();
            trial.add(item);
            trial.join(branch.lightest);
            lightest.becomeIfLesser(trial);
        }

        private void lightenChoices(Row trial) {
            for (int choice = 0; choice < 1 << count; choice++) {
                if (Integer.bitCount(choice) == need) {
                    tryChoice(trial, choice);
                }
            }
        }

        private void tryChoice(Row trial, int choice) {
            trial.start();
            for (int i = 0; i < count; i++) {
                boolean chosen = ((choice >> i) & 1) == 1;
                trial.join(chosen ? taken[i].lightest : taken[i].refusal);
            }
            lightest.becomeIfLesser(trial);
        }
    }

    /** A part of a policy with its three forms. */
    private static final class Part {
        final Part[] parts = new Part[JOINED_MOST];
        final Form formB = new Form(false);
        final Form formD = new Form(true);
        final Form formV = new Form(false);
        int kind = NO_KIND;
        // What a leaf names; of another part, how many of its parts have to hold.
        int number = 0;
        int count = 0;
        boolean held = false;

        void start(int aKind) {
            kind = aKind;
            number = 0;
            count = 0;
        }

        void join(Part part) {
            if (count < JOINED_MOST) {
                parts[count] = part;
                count++;
            }
        }

        void weigh(Facts facts) {
            if (isLeaf(kind)) {
                held = facts.meet(kind, number);
                return;
            }
            int holding = 0;
            for (int i = 0; i < count; i++) {
                holding += parts[i].held ? 1 : 0;
            }
            held = holding >= number;
        }

        void chooseForms(Form trial) {
            formB.rule = NO_WAY;
            formD.rule = NO_WAY;
            formV.rule = NO_WAY;
            offerWaysOfB(trial);
            offerWaysOfD(formB, trial);
            offerWaysOfD(formD, trial);
            formD.offer(trial.start(BY_ELSE_ZERO, 0, 1).with(formB));
            formD.makeRefusal();
            offerWaysOfV(trial);
        }

        /** The ways of B that D does not have. */
        private void offerWaysOfB(Form trial) {
            if (isLeaf(kind) && kind != KEY) {
                formB.offer(trial.start(BY_LEAF, WORD * kind + number, 0));
            } else if (kind == AND && count == 2) {
                offerTwo(formB, trial, BY_ROW, parts[0].formV, parts[1].formB);
                offerTwo(formB, trial, BY_ROW, parts[1].formV, parts[0].formB);
            } else if (kind == OR && count == 2) {
                offerTwo(formB, trial, BY_TWICE, parts[0].formD, parts[1].formB);
                offerTwo(formB, trial, BY_TWICE, parts[1].formD, parts[0].formB);
                offerTwo(formB, trial, BY_IF, parts[0].formB, parts[1].formB);
            } else if (kind == ADD && number == count) {
                offerRowOfAll(trial);
            }
        }

        /** The ways of D that B has too: all but the last one. */
        private void offerWaysOfD(Form form, Form trial) {
            if (kind == KEY) {
                form.offer(trial.start(BY_LEAF, WORD * kind + number, 0));
            } else if (!isLeaf(kind)) {
                offerAside(form, trial);
            }
            if (kind == OR && count == 2) {
                offerTwo(form, trial, BY_TWICE, parts[0].formD, parts[1].formD);
                offerTwo(form, trial, BY_IF, parts[0].formD, parts[1].formB);
                offerTwo(form, trial, BY_IF, parts[0].formB, parts[1].formD);
            }
        }

        private void offerWaysOfV(Form trial) {
            if (kind == AND && count == 2) {
                offerTwo(formV, trial, BY_ROW, parts[0].formV, parts[1].formV);
            } else if (kind == OR && count == 2) {
                offerTwo(formV, trial, BY_UNLESS, parts[0].formD, parts[1].formV);
                offerTwo(formV, trial, BY_IF, parts[0].formV, parts[1].formV);
            }
            formV.offer(trial.start(BY_VERIFY, 0, 1).with(formB));
        }

        private static void offerTwo(Form form, Form trial, int rule, Form first, Form second) {
            form.offer(trial.start(rule, 0, 2).with(first).with(second));
        }

        private void offerAside(Form form, Form trial) {
            trial.start(BY_ASIDE, kind, number);
            for (int i = 0; i < count; i++) {
                trial.with(parts[i].formD);
            }
            form.offer(trial);
        }

        private void offerRowOfAll(Form trial) {
            trial.start(BY_ROW, 0, count);
            for (int i = 0; i < count; i++) {
                trial.with(i < count - 1 ? parts[i].formV : parts[i].formB);
            }
            formB.offer(trial);
        }
    }

    /** Keeps what was typed and reads it into parts, each before the parts in it. */
    private static final class Reader {
        final int[] characters = new int[TYPED_MOST + TYPED_AT_ONCE];
        final Part[] parts = new Part[PARTS_MOST];
        // Text that opens more parts than a policy can have has a fault, but one that is told
        // only further on: what is read till then is not looked at and goes here.
        final Part spare = new Part();
        int length = 0;
        int at = 0;
        int place = -1;
        int leaves = 0;
        int used = 0;

        Reader() {
            for (int i = 0; i < PARTS_MOST; i++) {
                parts[i] = new Part();
            }
        }

        /** Lays a number's characters from end on: the new end; -1 if there is a wrong one. */
        int typed(int number, int end) {
            int next = end;
            for (int shift = 24; shift >= 0; shift -= 8) {
                int character = (number >>> shift) & 255;
                if (next < 0 || character == 0) {
                    continue;
                }
                if (character < 33 || character > 126 || next >= characters.length) {
                    return -1;
                }
                characters[next] = character;
                next++;
            }
            return next;
        }

        /** The policy that was typed; null, and the fault's place is set, if it is none. */
        Part whole() {
            at = 0;
            place = -1;
            leaves = 0;
            used = 0;
            Part part = readPart(0);
            if (part != null && at < length) {
                place = at;
                part = null;
            }
            length = 0;
            return part;
        }

        private Part readPart(int depth) {
            int start = at;
            if (depth > DEEPEST) {
                refuse(at);
                return null;
            }
            int kind = kindHere();
            if (kind == NO_KIND) {
                return null;
            }
            Part part = newPart(kind);
            boolean good = isLeaf(kind) ? readLeaf(part, start) : readBranches(part, kind, depth);
            return good ? part : null;
        }

        private Part newPart(int kind) {
            Part part = spare;
            if (used < PARTS_MOST) {
                part = parts[used];
                used++;
            }
            part.start(kind);
            return part;
        }

        private int kindHere() {
            int alike = 0;
            for (int kind : KINDS) {
                String name = nameOf(kind);
                int same = countSame(name);
                if (same == name.length()) {
                    at += same;
                    return kind;
                }
                alike = Math.max(alike, same);
            }
            refuse(at + alike);
            return NO_KIND;
        }

        private static String nameOf(int kind) {
            switch (kind) {
                case KEY: return "key(";
                case HASH: return "hash(";
                case AFTER: return "after(";
                case OLDER: return "older(";
                case AND: return "and(";
                case OR: return "or(";
                default: return "thr(";
            }
        }

        private int countSame(String name) {
            int same = 0;
            while (same < name.length() && at + same < length
                && characters[at + same] == name.charAt(same)) {
                same++;
            }
            return same;
        }

        private boolean readLeaf(Part part, int start) {
            leaves++;
            if (leaves > LEAVES_MOST) {
                return refuse(start);
            }
            if (part.kind == KEY) {
                part.number = oneOf('A', 'H');
            } else if (part.kind == HASH) {
                part.number = oneOf('0', '9');
            } else {
                part.number = readTime();
            }
            return part.number >= 0 && expect(')');
        }

        private boolean readBranches(Part part, int kind, int depth) {
            int need = kind == AND ? 2 : 1;
            int most = kind == ADD ? JOINED_MOST : JOINED_LEAST;
            if (kind == ADD) {
                // A k above how many there are is told behind them, one from 5 to 9 too.
                need = 1 + oneOf('1', '9');
                if (need < 1 || !expect(',')) {
                    return false;
                }
            }
            part.number = need;
            // Counted here, for what the spare part counts is not this part's own.
            int joined = 0;
            while (joined < JOINED_LEAST || (joined < most && isHere(','))) {
                if (joined > 0 && !expect(',')) {
                    return false;
                }
                Part inner = readPart(depth + 1);
                if (inner == null) {
                    return false;
                }
                part.join(inner);
                joined++;
            }
            return joined < need ? refuse(at) : expect(')');
        }

        private boolean refuse(int where) {
            place = where;
            return false;
        }

        private boolean isHere(char wanted) {
            return at < length && characters[at] == wanted;
        }

        private boolean expect(char wanted) {
            if (!isHere(wanted)) {
                return refuse(at);
            }
            at++;
            return true;
        }

        /** Which one of the characters from low to high comes, low being 0; -1 if none does. */
        private int oneOf(char low, char high) {
            if (at >= length || characters[at] < low || characters[at] > high) {
                refuse(at);
                return -1;
            }
            at++;
            return characters[at - 1] - low;
        }

        /** One to three digits, above 0; -1 if they are none. */
        private int readTime() {
            int number = 0;
            for (int digits = 0; digits < 3 && !(number > 0 && isHere(')')); digits++) {
                boolean staysZero = digits == 2 && number == 0 && isHere('0');
                int digit = staysZero ? -1 : oneOf('0', '9');
                if (digit < 0) {
                    refuse(at);
                    return -1;
                }
                number = 10 * number + digit;
            }
            return number;
        }
    }

    /** The words of a form, and the forms that are said in them, each behind those in it. */
    private static final class Script {
        final int[] words = new int[WORDS_MOST];
        // A part is said by two of its forms at most: a D or V by its B.
        final Form[] forms = new Form[2 * PARTS_MOST];
        int count = 0;
        int formCount = 0;

        void start() {
            count = 0;
            formCount = 0;
        }

        void write(Form form, int depth) {
            if (depth > DEEPEST || formCount >= forms.length) {
                return;
            }
            switch (form.rule) {
                case BY_LEAF:
                    addWord(form.mark);
                    break;
                case BY_VERIFY:
                    writeRow(form, depth);
                    addOperation(VERIFY);
                    break;
                case BY_ASIDE:
                    writeAside(form, depth);
                    break;
                case BY_IF:
                case BY_ELSE_ZERO:
                    writeIf(form, depth);
                    break;
                case BY_TWICE:
                case BY_UNLESS:
                    writeUnless(form, depth);
                    break;
                default:
                    writeRow(form, depth);
            }
            keepForm(form);
        }

        private void writeRow(Form form, int depth) {
            for (int i = 0; i < form.count; i++) {
                write(form.taken[i], depth + 1);
            }
        }

        private void writeAside(Form form, int depth) {
            for (int i = 0; i < form.count; i++) {
                if (i > 0) {
                    addOperation(ASIDE);
                }
                write(form.taken[i], depth + 1);
                if (i > 0) {
                    addOperation(BACK);
                    addOperation(form.mark);
                }
            }
            if (form.mark == ADD) {
                addWord(WORD * SAME + form.need);
            }
        }

        private void writeIf(Form form, int depth) {
            addOperation(IF);
            write(form.taken[0], depth + 1);
            addOperation(ELSE);
            if (form.rule == BY_ELSE_ZERO) {
                addOperation(ZERO);
            } else {
                write(form.taken[1], depth + 1);
            }
            addOperation(END);
        }

        private void writeUnless(Form form, int depth) {
            write(form.taken[0], depth + 1);
            if (form.rule == BY_TWICE) {
                addOperation(TWICE);
            }
            addOperation(UNLESS);
            write(form.taken[1], depth + 1);
            addOperation(END);
        }

        private void addOperation(int operation) {
            addWord(WORD * operation);
        }

        private void addWord(int word) {
            if (count < WORDS_MOST) {
                words[count] = word;
                count++;
            }
        }

        private void keepForm(Form form) {
            if (formCount < forms.length) {
                forms[formCount] = form;
                formCount++;
            }
        }
    }

    /** Goes through a script, from its first word on, with a witness as its stack. */
    private static final class Machine {
        // A word puts one item at most.
        final int[] stack = new int[ITEMS_MOST + WORDS_MOST];
        final int[] side = new int[WORDS_MOST];
        int depth = 0;
        int sideDepth = 0;
        int at = 0;
        int steps = 0;
        boolean failed = false;

        /** -1 if the witness is accepted; the word that failed; how many there are. */
        int run(Script script, Row witness, Facts facts) {
            load(witness);
            while (!failed && at < script.count && steps < script.count) {
                int word = script.words[at];
                steps++;
                step(word / WORD, word % WORD, script, facts);
                at += failed ? 0 : 1;
            }
            if (failed) {
                return at;
            }
            boolean accepted = depth == 1 && stack[0] == 1 && sideDepth == 0;
            return accepted ? -1 : script.count;
        }

        private void load(Row witness) {
            depth = 0;
            sideDepth = 0;
            at = 0;
            steps = 0;
            failed = false;
            for (int i = witness.count - 1; i >= 0; i--) {
                push(witness.items[i]);
            }
        }

        private void step(int operation, int argument, Script script, Facts facts) {
            switch (operation) {
                case KEY:
                    tryKey(argument);
                    break;
                case HASH:
                    push(take() == SECRET + argument ? 1 : 0);
                    break;
                case AFTER:
                case OLDER:
                    failed = !facts.meet(operation, argument);
                    push(1);
                    break;
                case VERIFY:
                    if (takeNumber() == 0) {
                        failed = true;
                    }
                    break;
                case AND:
                case OR:
                case ADD:
                    push(joined(operation, takeNumber(), takeNumber()));
                    break;
                case SAME:
                    push(takeNumber() == argument ? 1 : 0);
                    break;
                case ZERO:
                    push(0);
                    break;
                default:
                    stepAround(operation, script);
            }
        }

        /** The words that move items or go elsewhere; END does nothing. */
        private void stepAround(int operation, Script script) {
            switch (operation) {
                case ASIDE:
                    pushAside(take());
                    break;
                case BACK:
                    push(takeBack());
                    break;
                case TWICE:
                    repeatTop();
                    break;
                case IF:
                    tryIf(script);
                    break;
                case ELSE:
                    at = findBehind(END, script);
                    break;
                case UNLESS:
                    if (takeNumber() != 0) {
                        at = findBehind(END, script);
                    }
                    break;
                default:
                    break;
            }
        }

        private void tryKey(int key) {
            int item = take();
            if (item != SIGNATURE + key && item != EMPTY) {
                failed = true;
            }
            push(item == EMPTY ? 0 : 1);
        }

        private void tryIf(Script script) {
            int item = take();
            if (item != ONE && item != EMPTY) {
                failed = true;
            } else if (item == EMPTY && !failed) {
                at = findBehind(ELSE, script);
            }
        }

        private static int joined(int operation, int one, int other) {
            if (operation == ADD) {
                return one + other;
            }
            boolean both = one != 0 && other != 0;
            boolean any = one != 0 || other != 0;
            return (operation == AND ? both : any) ? 1 : 0;
        }

        private void repeatTop() {
            int top = take();
            push(top);
            if (top != 0) {
                push(top);
            }
        }

        /** Where the word stands that ends what was begun at the word that is done now. */
        private int findBehind(int wanted, Script script) {
            int open = 0;
            for (int i = at + 1; i < script.count; i++) {
                int operation = script.words[i] / WORD;
                if (open == 0 && operation == wanted) {
                    return i;
                }
                if (operation == IF || operation == UNLESS) {
                    open++;
                } else if (operation == END) {
                    open--;
                }
            }
            return at;
        }

        private void push(int value) {
            if (depth < stack.length) {
                stack[depth] = value;
                depth++;
            }
        }

        private int take() {
            if (depth == 0) {
                failed = true;
                return 0;
            }
            depth--;
            return stack[depth];
        }

        /** Sums stay far below the first signature, so what is 10 or more is no number. */
        private int takeNumber() {
            int value = take();
            if (value >= SIGNATURE) {
                failed = true;
            }
            return value;
        }

        private void pushAside(int value) {
            if (sideDepth < side.length) {
                side[sideDepth] = value;
                sideDepth++;
            }
        }

        private int takeBack() {
            if (sideDepth == 0) {
                failed = true;
                return 0;
            }
            sideDepth--;
            return side[sideDepth];
        }
    }
}
