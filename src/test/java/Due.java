import java.util.ArrayList;
import java.util.List;

/** What the tests share: calls with the answers that are due, and what was wrong. */
final class Due {
    interface Call {
        Object answer() throws Exception;
    }

    private static final int MOST_TOLD = 40;
    private static final List<String> WRONG = new ArrayList<>();
    private static String subject = "";
    private static int calls = 0;

    private Due() {
    }

    /** Names what the calls from here on are for. */
    static void about(String name) {
        subject = name + ": ";
    }

    static int calls() {
        return calls;
    }

    static void is(String call, Object due, Call made) {
        Object got = outcome(made);
        boolean isDue = due.equals(got);
        holds(isDue ? call : call + " answered " + got + ", due is " + due, isDue);
    }

    static void fails(String call, Class<? extends Exception> due, Call made) {
        is(call, due.getName(), made);
    }

    static void holds(String what, boolean isTrue) {
        calls++;
        if (!isTrue) {
            WRONG.add(subject + what);
        }
    }

    /** The answer, or the name of the class of the exception: a subclass is not the one that is due. */
    static Object outcome(Call made) {
        try {
            return made.answer();
        } catch (Exception e) {
            return e.getClass().getName();
        }
    }

    static void end() {
        for (int i = 0; i < WRONG.size() && i < MOST_TOLD; i++) {
            System.out.println(WRONG.get(i));
        }
        System.out.println(calls + " calls, " + WRONG.size() + " not as due");
        if (calls == 0 || !WRONG.isEmpty()) {
            System.exit(1);
        }
    }
}
