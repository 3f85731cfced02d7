import java.util.ArrayList;
import java.util.List;

/** Counts what a test looks at, prints what is not as it is due, and ends the test. */
final class Check {
    /** A call that may throw. */
    interface Call {
        Object make();
    }

    private final String test;
    private final List<String> wrong = new ArrayList<>();
    private int looks;

    Check(String test) {
        this.test = test;
    }

    void same(String what, Object due, Object got) {
        looks++;
        if (!due.equals(got)) {
            wrong.add(what + " answered " + got + ", due is " + due);
        }
    }

    /** The call throws just this exception, and what can be seen of the house is as it was. */
    void refuses(String what, Class<? extends RuntimeException> due, Sidelessly house, Call call) {
        String before = Sight.of(house);
        same(what, "throws " + due.getSimpleName(), answerOf(call));
        same(what + " leaves all as it was", before, Sight.of(house));
    }

    static Object answerOf(Call call) {
        try {
            return call.make();
        } catch (RuntimeException e) {
            return "throws " + e.getClass().getSimpleName();
        }
    }

    void close() {
        for (String line : wrong) {
            System.out.println(test + ": " + line);
        }
        System.out.println(test + ": " + (looks - wrong.size()) + " of " + looks + " looks are as due");
        if (looks == 0 || !wrong.isEmpty()) {
            System.exit(1);
        }
    }
}
