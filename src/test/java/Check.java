import java.util.function.Consumer;
import java.util.function.Supplier;

/** What the tests of the project share: counting wrong answers and telling them. */
final class Check {
    private int wrong = 0;
    private int made = 0;

    void same(String what, long got, long due) {
        if (got != due) {
            fail(what + " answered " + got + ", due is " + due);
        }
        made++;
    }

    void same(String what, char got, char due) {
        same(what, (long) got, (long) due);
    }

    void same(String what, boolean got, boolean due) {
        same(what, got ? 1L : 0L, due ? 1L : 0L);
    }

    void sameDouble(String what, double got, double due) {
        if (got != due) {
            fail(what + " answered " + got + ", due is " + due);
        }
        made++;
    }

    void sameText(String what, String got, String due) {
        if (!got.equals(due)) {
            fail(what + " answered \"" + got + "\", due is \"" + due + "\"");
        }
        made++;
    }

    /** The call must throw just this exception and leave all that can be seen as it was. */
    void refuses(String what, Class<? extends RuntimeException> due, Supplier<SpoolFarm> maker,
            Consumer<SpoolFarm> call) {
        SpoolFarm farm = maker.get();
        String before = State.of(farm);
        sameText(what, thrownBy(farm, call), due.getSimpleName());
        sameText(what + " and what can be seen after it", State.of(farm), before);
    }

    void fail(String text) {
        wrong++;
        System.out.println(text);
    }

    void end(String name) {
        System.out.println(name + ": " + made + " answers looked at, " + wrong + " wrong");
        if (wrong != 0) {
            System.exit(1);
        }
    }

    private static String thrownBy(SpoolFarm farm, Consumer<SpoolFarm> call) {
        try {
            call.accept(farm);
        } catch (RuntimeException thrown) {
            return name(thrown);
        }
        return "nothing";
    }

    /** The exception's name; one that the library threw, and not the class itself, is told apart. */
    static String name(Throwable thrown) {
        String name = thrown.getClass().getSimpleName();
        StackTraceElement[] trace = thrown.getStackTrace();
        boolean isOwn = trace.length > 0 && trace[0].getClassName().startsWith("SpoolFarm");
        return isOwn ? name : name + " of the library";
    }
}
