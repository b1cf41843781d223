/** Promises 1 and 2: a new object, text. */
public final class TypingTest {
    private static final Answers ANSWERS = new Answers();
    private static final int KEY_ = 'k' << 24 | 'e' << 16 | 'y' << 8 | '(';

    public static void main(String[] args) {
        newObject();
        bytes();
        wrongBytes();
        hundred();
        ANSWERS.end();
    }

    private static void newObject() {
        PolicyForge x = new PolicyForge();
        ANSWERS.due("new: fault", -1, x.fault());
        ANSWERS.due("new: done", 0, x.done());
        ANSWERS.dueOf("new: holds", Answers.NOTHING_THERE, () -> x.holds(0, 0, 0, 0) ? 1 : 0);
        ANSWERS.dueOf("new: word", Answers.BAD_INDEX, () -> x.word(0));
        ANSWERS.dueOf("new: size", Answers.NOTHING_THERE, () -> x.size(0));
        ANSWERS.dueOf("new: size of no such", Answers.NOTHING_THERE, () -> x.size(8));
        ANSWERS.dueOf("new: satisfy", Answers.NOTHING_THERE, () -> x.satisfy(0, 0, 0, 0));
        ANSWERS.dueOf("new: check", Answers.NOTHING_THERE, () -> x.check(0, 0));
        ANSWERS.dueOf("new: item", Answers.BAD_INDEX, () -> x.item(0));
        ANSWERS.dueOf("new: read", Answers.BAD_ARGUMENT, x::read);
        ANSWERS.due("new: fault of nothing", 0, x.fault());
    }

    private static void bytes() {
        PolicyForge x = new PolicyForge();
        ANSWERS.due("zeros", true, x.text(0, 0, 0, 0, 0));
        ANSWERS.due("spread", true, x.text('k' << 24 | 'e', 'y' << 16, '(' << 8, 0, 'B' << 24));
        ANSWERS.due("rest", true, x.text(0, 0, 0, 0, ')'));
        ANSWERS.dueOf("spread: read", 1, x::read);
        ANSWERS.dueOf("spread: word", 1001, () -> x.word(0));
        ANSWERS.due("edges", true, x.text(33 << 24 | 126 << 16, 0, 0, 0, 0));
        ANSWERS.dueOf("edges: read", Answers.BAD_ARGUMENT, x::read);
    }

    private static void wrongBytes() {
        int[] wrong = {1, 10, 32, 127, 128, 200, 255};
        for (int character : wrong) {
            for (int shift = 0; shift < 32; shift += 8) {
                PolicyForge x = new PolicyForge();
                int number = character << shift;
                ANSWERS.due("first " + number, false, x.text(number, 0, 0, 0, 0));
                ANSWERS.due("last " + number, false, x.text(KEY_, KEY_, KEY_, KEY_, number));
                ANSWERS.due("nothing is typed", 1, Answers.read(x, "key(A)"));
            }
        }
    }

    private static void hundred() {
        PolicyForge x = new PolicyForge();
        for (int i = 0; i < 5; i++) {
            ANSWERS.due("twenty", true, x.text(KEY_, KEY_, KEY_, KEY_, KEY_));
        }
        ANSWERS.due("nothing more", true, x.text(0, 0, 0, 0, 0));
        ANSWERS.due("101", false, x.text(0, 0, 'x', 0, 0));
        ANSWERS.due("120", false, x.text(KEY_, KEY_, KEY_, KEY_, KEY_));
        ANSWERS.dueOf("hundred: read", Answers.BAD_ARGUMENT, x::read);
        ANSWERS.due("hundred: fault", 4, x.fault());
        ANSWERS.due("empty again", 1, Answers.read(x, "key(A)"));
        ANSWERS.due("90", true, Answers.type(x, "or(".repeat(30)));
        ANSWERS.due("not 101", false, Answers.type(x, "key(A),or(k"));
        ANSWERS.due("but 100", true, Answers.type(x, "key(A),or("));
        ANSWERS.dueOf("full: read", Answers.BAD_ARGUMENT, x::read);
        ANSWERS.due("full: fault at its end", 100, x.fault());
    }
}
