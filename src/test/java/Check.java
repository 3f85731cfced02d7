import java.util.ArrayList;
import java.util.List;

/** Counts what a test looks at, prints what is not as it is due, and ends the test. */
final class Check {
    /** A call that may throw. */
    interface Call {
        Object make();
    }

    /** Makes a new house, the same at each time. */
    interface Recipe {
        Sidelessly make();
    }

    /** A call of a house that may throw. */
    interface HouseCall {
        Object make(Sidelessly house);
    }

    static final Class<IndexOutOfBoundsException> INDEX = IndexOutOfBoundsException.class;
    static final Class<IllegalArgumentException> ARGUMENT = IllegalArgumentException.class;
    static final Class<IllegalStateException> STATE = IllegalStateException.class;
    static final Class<UnsupportedOperationException> UNSUPPORTED = UnsupportedOperationException.class;
    static final Class<java.util.NoSuchElementException> NO_SUCH = java.util.NoSuchElementException.class;
    static final Class<ArithmeticException> ARITHMETIC = ArithmeticException.class;
    static final Class<RuntimeException> NOTHING = RuntimeException.class;

    private final String test;
    private final List<String> wrong = new ArrayList<>();
    private String sentence = "";
    private int looks;

    Check(String test) {
        this.test = test;
    }

    /** The words of the document that the next looks are about; they are printed with what is wrong. */
    void sentence(String words) {
        sentence = "<" + words + "> ";
    }

    int looks() {
        return looks;
    }

    void same(String what, Object due, Object got) {
        looks++;
        if (!due.equals(got)) {
            wrong.add(sentence + what + " answered " + got + ", due is " + due);
        }
    }

    /** The call throws the exception that is due, and changes nothing by that; or it answers, if none is due. */
    void answers(String what, Class<? extends RuntimeException> dueThrow, Object dueAnswer, Recipe recipe,
            HouseCall call) {
        if (dueThrow == NOTHING) {
            Sidelessly asked = recipe.make();
            same(what, dueAnswer, answerOf(() -> call.make(asked)));
        } else {
            refuses(what, dueThrow, recipe, call);
        }
    }

    /** The call throws just this exception, and leaves a house as it is without the call. */
    void refuses(String what, Class<? extends RuntimeException> due, Recipe recipe, HouseCall call) {
        Sidelessly asked = recipe.make();
        same(what, "throws " + due.getSimpleName(), answerOf(() -> call.make(asked)));
        same(what + " leaves all as it was", Sight.of(recipe.make()), Sight.of(asked));
    }

    /** The call only tells, and leaves a house as it is without the call. */
    void tells(String what, Object due, Recipe recipe, HouseCall call) {
        Sidelessly asked = recipe.make();
        same(what, due, answerOf(() -> call.make(asked)));
        same(what + " leaves all as it was", Sight.of(recipe.make()), Sight.of(asked));
    }

    static Object answerOf(Call call) {
        try {
            return call.make();
        } catch (RuntimeException e) {
            return "throws " + e.getClass().getSimpleName();
        }
    }

    void close() {
        for (int index = 0; index < wrong.size() && index < 20; index++) {
            System.out.println(test + ": " + wrong.get(index));
        }
        System.out.println(test + ": " + (looks - wrong.size()) + " of " + looks + " looks are as due");
        if (looks == 0 || !wrong.isEmpty()) {
            System.exit(1);
        }
    }
}
