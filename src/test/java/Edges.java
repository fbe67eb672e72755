import java.util.HashSet;
import java.util.NoSuchElementException;
import java.util.Set;
import java.util.function.Function;
import java.util.function.IntFunction;
import java.util.function.Supplier;

/**
 * Edge cases, a row each: a run of calls on a new object and what its last call is due to answer.
 * Each row has a name of its own, stands for itself, and is told by its name if it is wrong.
 */
final class Edges {
    static final Class<IndexOutOfBoundsException> INDEX = IndexOutOfBoundsException.class;
    static final Class<IllegalArgumentException> ARGUMENT = IllegalArgumentException.class;
    static final Class<IllegalStateException> STATE = IllegalStateException.class;
    static final Class<UnsupportedOperationException> UNSUPPORTED = UnsupportedOperationException.class;
    static final Class<NoSuchElementException> NO_ELEMENT = NoSuchElementException.class;
    static final Class<ArithmeticException> ARITHMETIC = ArithmeticException.class;

    /** The papers' neighbours, their capitals and their names' other characters. */
    private static final int[] NO_PAPERS = {0, ' ', '3', '4', 'A', 'B', 'L', '`', 'c', 'k', 'm', 255, 256 + 'a', 65535};

    interface Call {
        Object on(SpoolFarm farm);
    }

    interface NumberCall {
        Object on(SpoolFarm farm, int number);
    }

    /** The names of the rows of all tests that were run, for SentencesTest. */
    static final Set<String> NAMES = new HashSet<>();

    private final Set<String> rows = new HashSet<>();
    private int wrong = 0;

    /** The answer must be the due one, and of its type. */
    void due(String row, Supplier<SpoolFarm> maker, Call call, Object due) {
        begin(row);
        String got = answer(maker, call);
        if (!got.equals(told(due))) {
            tell(row, "answered " + got + ", due is " + told(due));
        }
    }

    /** The one call must throw just this exception, and all other calls answer as without it. */
    void refused(String row, Class<? extends RuntimeException> due, Supplier<SpoolFarm> maker, Call call) {
        begin(row);
        String got = answer(maker, call);
        if (!got.equals(due.getSimpleName())) {
            tell(row, "answered " + got + ", due is " + due.getSimpleName());
            return;
        }
        compare(row, maker, call);
    }

    /** The one call is taken, and all other calls answer as without it. */
    void unchanged(String row, Supplier<SpoolFarm> maker, Call call, Object due) {
        due(row, maker, call, due);
        compare(row, maker, call);
    }

    private void compare(String row, Supplier<SpoolFarm> maker, Call call) {
        for (Function<SpoolFarm, String> round : Answers.ROUNDS) {
            String after = looked(row, round, () -> {
                SpoolFarm called = maker.get();
                answer(() -> called, call);
                return called;
            });
            String without = looked(row, round, maker);
            if (!after.equals(without)) {
                tell(row, "changed something: \n  " + after + "\n  " + without);
            }
            if (after.isEmpty() || without.isEmpty()) {
                return;
            }
        }
    }

    /** A farm that can't be made or looked at fails its row alone, and not the rows behind it. */
    private String looked(String row, Function<SpoolFarm, String> round, Supplier<SpoolFarm> maker) {
        try {
            return round.apply(maker.get()) + ";";
        } catch (RuntimeException | AssertionError thrown) {
            tell(row, "could not be looked at: " + thrown);
            return "";
        }
    }

    /** A number from least to most is taken; the numbers next to these are not. */
    void range(String what, int least, int most, Supplier<SpoolFarm> maker, NumberCall call,
            IntFunction<Object> due) {
        due(what + ": " + least + ", the least", maker, x -> call.on(x, least), due.apply(least));
        due(what + ": " + most + ", the most", maker, x -> call.on(x, most), due.apply(most));
        outOfRange(what, least, most, ARGUMENT, maker, call);
    }

    /** The numbers next to the range and the very great and small ones are refused. */
    void outOfRange(String what, int least, int most, Class<? extends RuntimeException> due,
            Supplier<SpoolFarm> maker, NumberCall call) {
        refused(what + ": " + (least - 1) + ", below the least", due, maker, x -> call.on(x, least - 1));
        refused(what + ": " + (most + 1) + ", above the most", due, maker, x -> call.on(x, most + 1));
        int[] wild = {Integer.MIN_VALUE, Integer.MIN_VALUE + 1, Integer.MAX_VALUE - 1, Integer.MAX_VALUE};
        for (int number : wild) {
            refused(what + ": " + number, due, maker, x -> call.on(x, number));
        }
    }

    /** The numbers 0 to there - 1 are there, and no others. */
    void numbers(String what, Class<? extends RuntimeException> thrown, int there, Supplier<SpoolFarm> maker,
            NumberCall call, IntFunction<Object> due) {
        String all = what + " of " + there;
        for (int number = 0; number < there; number++) {
            int asked = number;
            due(all + ": number " + number, maker, x -> call.on(x, asked), due.apply(number));
        }
        outOfRange(all, 0, there - 1, thrown, maker, call);
    }

    void users(String what, NumberCall call, IntFunction<Object> due) {
        for (int there : new int[] {0, 1, 3, 6}) {
            numbers(what + ", user", INDEX, there, Farms.with(there, 1, 0), call, due);
        }
    }

    void printers(String what, NumberCall call, IntFunction<Object> due) {
        for (int there : new int[] {0, 1, 3, 4}) {
            numbers(what + ", printer", INDEX, there, Farms.with(1, there, 1), call, due);
        }
    }

    void jobs(String what, NumberCall call, IntFunction<Object> due) {
        for (int there : new int[] {0, 1, 3, 40}) {
            numbers(what + ", job", INDEX, there, Farms.with(1, 1, there), call, due);
        }
    }

    void entries(String what, NumberCall call, IntFunction<Object> due) {
        for (int there : new int[] {0, 1, 3, 40}) {
            numbers(what + ", entry", INDEX, there, Farms.logged(there), call, due);
        }
    }

    void papers(String what, Supplier<SpoolFarm> maker, NumberCall call) {
        for (char paper : new char[] {'a', 'b', 'l'}) {
            due(what + ": paper " + paper, maker, x -> call.on(x, paper), paper);
        }
        noPapers(what, maker, call);
    }

    void noPapers(String what, Supplier<SpoolFarm> maker, NumberCall call) {
        for (int paper : NO_PAPERS) {
            refused(what + ": no paper " + paper, ARGUMENT, maker, x -> call.on(x, paper));
        }
    }

    void end(String name) {
        System.out.println(name + ": " + rows.size() + " edge cases, " + wrong + " wrong");
        if (wrong != 0) {
            System.exit(1);
        }
    }

    private void begin(String row) {
        NAMES.add(row);
        if (!rows.add(row)) {
            tell(row, "stands for two rows");
        }
    }

    private void tell(String row, String text) {
        wrong++;
        System.out.println(row + ": " + text);
    }

    private static String answer(Supplier<SpoolFarm> maker, Call call) {
        try {
            return told(call.on(maker.get()));
        } catch (RuntimeException thrown) {
            return Check.name(thrown);
        }
    }

    private static String told(Object answer) {
        return answer.getClass().getSimpleName() + " " + answer;
    }
}
