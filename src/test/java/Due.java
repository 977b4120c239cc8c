import java.util.ArrayList;
import java.util.List;

/** What the tests share: calls with the answers that are due, and what was wrong. */
final class Due {
    interface Call {
        Object answer() throws Exception;
    }

    private static final List<String> WRONG = new ArrayList<>();
    private static int calls = 0;

    private Due() {
    }

    static void is(String call, Object due, Call made) {
        calls++;
        Object got = outcome(made);
        if (!due.equals(got)) {
            WRONG.add(call + " answered " + got + ", due is " + due);
        }
    }

    static void fails(String call, Class<? extends Exception> due, Call made) {
        is(call, due.getName(), made);
    }

    static void holds(String what, boolean isTrue) {
        calls++;
        if (!isTrue) {
            WRONG.add(what);
        }
    }

    /** The answer, or the name of the class of the exception: a subclass is not the one that is due. */
    static Object outcome(Call made) {
        try {
            return made.answer();
        } catch (Exception e) {
            return e.getClass().getName();
        }
    }

    static void end() {
        for (int i = 0; i < WRONG.size() && i < 40; i++) {
            System.out.println(WRONG.get(i));
        }
        System.out.println(calls + " calls, " + WRONG.size() + " not as due");
        if (calls == 0 || !WRONG.isEmpty()) {
            System.exit(1);
        }
    }
}
