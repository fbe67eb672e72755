import java.lang.reflect.InvocationTargetException;
import java.lang.reflect.Method;
import java.util.Arrays;
import java.util.Comparator;

/** Runs of 512 calls, each answer held against Model's; the same runs each time. */
public final class RunsTest {
    private static final int RUNS = 1500;
    private static final int CALLS = 512;
    /** Calls that move a run on, made more often than their share. */
    private static final String[] OFTEN = {"submit", "submit", "release", "release", "release", "releaseAll",
        "load", "load", "grant", "setToner", "setToner", "queueAt", "setStapled", "writeJob", "lineAt",
        "reasonFor", "wouldPrint", "bestPrinter"};

    private static final Check CHECK = new Check();

    private long seed;
    /** A run with small numbers comes to the end of things sooner than one with large numbers. */
    private boolean isSmall;

    private RunsTest(int run) {
        seed = run * 7919L + 17;
        isSmall = run % 3 != 0;
    }

    public static void main(String[] args) throws Exception {
        Method[] methods = SpoolFarm.class.getMethods();
        methods = Arrays.stream(methods).filter(m -> m.getDeclaringClass() == SpoolFarm.class)
            .sorted(Comparator.comparing(Method::getName)).toArray(Method[]::new);
        CHECK.same("calls of the face", methods.length, 44);
        for (int run = 0; run < RUNS; run++) {
            new RunsTest(run).run(run, methods);
        }
        CHECK.end("RunsTest");
    }

    private void run(int run, Method[] methods) throws Exception {
        SpoolFarm farm = new SpoolFarm();
        Model model = new Model();
        for (int call = 0; call < CALLS; call++) {
            Method method = next(call, methods);
            Class<?>[] types = method.getParameterTypes();
            int[] arguments = arguments(method.getName(), types);
            String told = "run " + run + ", call " + call + ": " + method.getName() + Arrays.toString(arguments);
            CHECK.sameText(told, answer(farm, method, types, arguments), answer(model, method, arguments));
        }
    }

    private Method next(int call, Method[] methods) {
        String name = methods[below(methods.length)].getName();
        if (call < 12) {
            name = new String[] {"addUser", "addPrinter", "addTray", "addTray", "submit"}[below(5)];
        } else if (below(3) > 0) {
            name = OFTEN[below(OFTEN.length)];
        }
        for (Method method : methods) {
            if (method.getName().equals(name)) {
                return method;
            }
        }
        throw new AssertionError(name);
    }

    private static String answer(SpoolFarm farm, Method method, Class<?>[] types, int[] arguments)
            throws Exception {
        Object[] boxed = new Object[types.length];
        for (int i = 0; i < types.length; i++) {
            boxed[i] = types[i] == char.class ? (Object) (char) arguments[i]
                : types[i] == boolean.class ? (Object) (arguments[i] == 1) : (Object) arguments[i];
        }
        try {
            return String.valueOf(method.invoke(farm, boxed));
        } catch (InvocationTargetException thrown) {
            return Check.name(thrown.getCause());
        }
    }

    private static String answer(Model model, Method method, int[] arguments) {
        try {
            return String.valueOf(model.call(method.getName(), arguments));
        } catch (RuntimeException thrown) {
            return thrown.getClass().getSimpleName();
        }
    }

    private int[] arguments(String name, Class<?>[] types) {
        int[] values = new int[types.length];
        for (int i = 0; i < types.length; i++) {
            if (types[i] == boolean.class) {
                values[i] = below(2);
            } else if (types[i] == char.class) {
                values[i] = below(40) == 0 ? below(300) : "aaabl".charAt(below(5));
            } else {
                values[i] = below(60) == 0 ? wild() : number(name, i);
            }
        }
        return values;
    }

    private int wild() {
        int[] values = {-1, Integer.MIN_VALUE, Integer.MAX_VALUE, 6, 40, 41, 100, 101, 500, 501, 1000, 1001};
        return values[below(values.length)];
    }

    private int number(String name, int index) {
        switch (name) {
            case "addUser": return below(isSmall ? 20 : 1000);
            case "addPrinter": return index == 1 ? below(isSmall ? 60 : 1001) : below(isSmall ? 4 : 101);
            case "addTray": return index == 0 ? place() : below(isSmall ? 12 : 501);
            case "load": return index == 0 ? place() : index == 1 ? below(3) : 1 + below(isSmall ? 12 : 300);
            case "setToner": return index == 0 ? place() : below(isSmall ? 50 : 1001);
            case "setStaples": return index == 0 ? place() : below(isSmall ? 4 : 101);
            case "grant": return index == 0 ? place() : 1 + below(isSmall ? 15 : 999);
            case "setPrices": return below(100);
            case "submit": return index == 0 ? place() : 1 + below(index == 2 ? 9 : isSmall ? 7 : 100);
            case "queueAt": return index == 0 ? place() : below(6);
            case "logJob": case "logPrinter": case "logPages": case "logSheets": return below(40);
            case "lineAt": return below(30);
            case "changePaper": case "sheetsIn": case "paperOf": case "trayCount": case "tonerOf":
            case "staplesIn": case "quotaOf": case "releaseAll": case "queueLength": case "pagesOf":
            case "pagesByLog": case "billOf": case "billByLog": return place();
            default: return index == 0 ? below(below(2) == 0 ? 8 : 40) : place();
        }
    }

    /** A user, printer or tray. */
    private int place() {
        return below(4) == 0 ? below(7) : below(3);
    }

    private int below(int bound) {
        seed = seed * 6364136223846793005L + 1442695040888963407L;
        return (int) Math.floorMod(seed >>> 33, (long) bound);
    }
}
