import java.util.NoSuchElementException;

/** Compares answers with those that are due, and ends a test. */
final class Answers {
    interface Call {
        long answer();
    }

    static final long BAD_ARGUMENT = -1001;
    static final long BAD_STATE = -1002;
    static final long BAD_INDEX = -1003;
    static final long NOTHING_THERE = -1004;
    static final long OTHER_EXCEPTION = -1005;

    private int calls = 0;
    private int wrong = 0;

    void due(String what, long want, long got) {
        calls++;
        if (got != want) {
            wrong++;
            System.out.println(what + " answered " + got + ", due is " + want);
        }
    }

    void due(String what, boolean want, boolean got) {
        due(what, want ? 1 : 0, got ? 1 : 0);
    }

    /** An exception that is due is told by one of the constants above. */
    void dueOf(String what, long want, Call call) {
        due(what, want, answerOf(call));
    }

    private static long answerOf(Call call) {
        try {
            return call.answer();
        } catch (NoSuchElementException e) {
            return NOTHING_THERE;
        } catch (IndexOutOfBoundsException e) {
            return e.getClass() == IndexOutOfBoundsException.class ? BAD_INDEX : OTHER_EXCEPTION;
        } catch (IllegalArgumentException e) {
            return e.getClass() == IllegalArgumentException.class ? BAD_ARGUMENT : OTHER_EXCEPTION;
        } catch (IllegalStateException e) {
            return BAD_STATE;
        } catch (RuntimeException e) {
            return OTHER_EXCEPTION;
        }
    }

    void end() {
        System.out.println(calls + " answers, " + wrong + " not as due");
        if (wrong != 0 || calls == 0) {
            System.exit(1);
        }
    }

    static boolean type(PolicyForge forge, String text) {
        boolean typed = true;
        for (int i = 0; i < text.length(); i += 20) {
            typed &= forge.text(number(text, i), number(text, i + 4), number(text, i + 8),
                number(text, i + 12), number(text, i + 16));
        }
        return typed;
    }

    private static int number(String text, int from) {
        int number = 0;
        for (int i = from; i < from + 4; i++) {
            number = number << 8 | (i < text.length() ? text.charAt(i) : 0);
        }
        return number;
    }

    /** How many words the policy's script has, or BAD_ARGUMENT. */
    static long read(PolicyForge forge, String text) {
        type(forge, text);
        return answerOf(forge::read);
    }

    static PolicyForge forgeOf(String text) {
        PolicyForge forge = new PolicyForge();
        if (!type(forge, text)) {
            throw new IllegalStateException("not typed: " + text);
        }
        forge.read();
        return forge;
    }
}
