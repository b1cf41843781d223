import java.util.ArrayList;
import java.util.Arrays;
import java.util.List;
import java.util.NoSuchElementException;
import java.util.function.IntUnaryOperator;

/** Compares answers with those that are due, and ends a test. */
final class Answers {
    interface Call {
        long answer();
    }

    static final long BAD_ARGUMENT = -1001;
    static final long BAD_STATE = -1002;
    static final long BAD_INDEX = -1003;
    static final long NOTHING_THERE = -1004;
    static final long OTHER_EXCEPTION = -1005;

    private String sentence = "";
    private int calls = 0;
    private int wrong = 0;

    /** What follows is asked by this sentence of the document. */
    void sentence(String words) {
        sentence = "\"" + words + "\": ";
    }

    /** For what has a row or a text of its own to be compared by. */
    void dueSame(String what, Object want, Object got) {
        calls++;
        if (!got.equals(want)) {
            wrong++;
            System.out.println(sentence + what + " answered " + got + ", due is " + want);
        }
    }

    void due(String what, long want, long got) {
        dueSame(what, want, got);
    }

    void due(String what, boolean want, boolean got) {
        dueSame(what, want, got);
    }

    /** An exception that is due is told by one of the constants above. */
    void dueOf(String what, long want, Call call) {
        due(what, want, answerOf(call));
    }

    static long answerOf(Call call) {
        try {
            return call.answer();
        } catch (NoSuchElementException e) {
            return NOTHING_THERE;
        } catch (IndexOutOfBoundsException e) {
            return e.getClass() == IndexOutOfBoundsException.class ? BAD_INDEX : OTHER_EXCEPTION;
        } catch (IllegalArgumentException e) {
            return e.getClass() == IllegalArgumentException.class ? BAD_ARGUMENT : OTHER_EXCEPTION;
        } catch (IllegalStateException e) {
            return BAD_STATE;
        } catch (RuntimeException e) {
            return OTHER_EXCEPTION;
        }
    }

    void end() {
        System.out.println(calls + " answers, " + wrong + " not as due");
        if (wrong != 0 || calls == 0) {
            System.exit(1);
        }
    }

    static boolean type(PolicyForge forge, String text) {
        boolean typed = true;
        for (int i = 0; i < text.length(); i += 20) {
            typed &= forge.text(number(text, i), number(text, i + 4), number(text, i + 8),
                number(text, i + 12), number(text, i + 16));
        }
        return typed;
    }

    private static int number(String text, int from) {
        int number = 0;
        for (int i = from; i < from + 4; i++) {
            number = number << 8 | (i < text.length() ? text.charAt(i) : 0);
        }
        return number;
    }

    /** How many words the policy's script has, or BAD_ARGUMENT. */
    static long read(PolicyForge forge, String text) {
        type(forge, text);
        return answerOf(forge::read);
    }

    static List<Integer> list(int... numbers) {
        return Arrays.stream(numbers).boxed().toList();
    }

    static List<Integer> wordsOf(PolicyForge forge) {
        return rowOf(forge::word);
    }

    static List<Integer> itemsOf(PolicyForge forge) {
        return rowOf(forge::item);
    }

    private static List<Integer> rowOf(IntUnaryOperator at) {
        List<Integer> row = new ArrayList<>();
        try {
            for (int i = 0; i < 1000; i++) {
                row.add(at.applyAsInt(i));
            }
        } catch (IndexOutOfBoundsException e) {
            return row;
        }
        throw new IllegalStateException("a row without end");
    }

    /** All that can be seen of an object without changing it. */
    static String stateOf(PolicyForge forge) {
        List<Long> sizes = new ArrayList<>();
        for (int what = 0; what < 8; what++) {
            int asked = what;
            sizes.add(answerOf(() -> forge.size(asked)));
        }
        return "words " + wordsOf(forge) + ", sizes " + sizes + ", items " + itemsOf(forge)
            + ", fault " + forge.fault() + ", done " + forge.done();
    }

    static PolicyForge forgeOf(String text) {
        PolicyForge forge = new PolicyForge();
        if (!type(forge, text)) {
            throw new IllegalStateException("not typed: " + text);
        }
        forge.read();
        return forge;
    }
}
