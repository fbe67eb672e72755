import java.util.List;
import java.util.function.Function;
import java.util.function.IntFunction;
import java.util.function.Supplier;

/**
 * What all the other calls answer on a farm, as a text. It is asked in rounds, each on an object of
 * its own, since an object is good for 512 calls and some answers show only when things change.
 */
final class Answers {
    static final List<Function<SpoolFarm, String>> ROUNDS = List.of(
        farm -> new Answers(farm).places(),
        farm -> new Answers(farm).log(),
        farm -> new Answers(farm).jobs(),
        farm -> new Answers(farm).lines(),
        farm -> new Answers(farm).queues(),
        farm -> new Answers(farm).plans(),
        farm -> new Answers(farm).changes());
    /** With what makes a farm in these tests, below 512. */
    private static final int MOST_ASKED = 400;

    private final SpoolFarm farm;
    private final StringBuilder text = new StringBuilder();
    private int asked = 0;
    private final int users;
    private final int printers;
    private final int jobs;

    private Answers(SpoolFarm farm) {
        this.farm = farm;
        users = numbers(6, farm::pagesOf);
        printers = numbers(4, farm::trayCount);
        jobs = numbers(40, farm::stateOf);
    }

    private int numbers(int most, IntFunction<Object> call) {
        for (int number = 0; number < most; number++) {
            asked++;
            try {
                call.apply(number);
            } catch (IndexOutOfBoundsException end) {
                return number;
            }
        }
        return most;
    }

    private void ask(String what, Supplier<Object> call) {
        if (++asked > MOST_ASKED) {
            throw new AssertionError("too many calls for one object");
        }
        text.append(what).append(' ');
        try {
            text.append(call.get());
        } catch (RuntimeException thrown) {
            text.append(Check.name(thrown));
        }
        text.append("; ");
    }

    private String places() {
        for (int i = 0; i < users; i++) {
            int user = i;
            ask("mono quota", () -> farm.quotaOf(user, false));
            ask("colour quota", () -> farm.quotaOf(user, true));
            ask("pages", () -> farm.pagesOf(user));
            ask("pages by log", () -> farm.pagesByLog(user));
            ask("bill", () -> farm.billOf(user));
            ask("bill by log", () -> farm.billByLog(user));
        }
        for (int i = 0; i < printers; i++) {
            int printer = i;
            ask("black toner", () -> farm.tonerOf(printer, false));
            ask("colour toner", () -> farm.tonerOf(printer, true));
            ask("staples", () -> farm.staplesIn(printer));
            ask("trays", () -> farm.trayCount(printer));
            int trays = farm.trayCount(printer);
            for (int j = 0; j < trays; j++) {
                int tray = j;
                ask("sheets", () -> farm.sheetsIn(printer, tray));
                ask("paper", () -> farm.paperOf(printer, tray));
            }
        }
        ask("mean", farm::meanPages);
        ask("share", farm::colourShare);
        ask("consistent", farm::isConsistent);
        line();
        return text.toString();
    }

    private String log() {
        ask("size", farm::logSize);
        int size = farm.logSize();
        for (int i = 0; i < size; i++) {
            int entry = i;
            ask("job", () -> farm.logJob(entry));
            ask("printer", () -> farm.logPrinter(entry));
            ask("pages", () -> farm.logPages(entry));
            ask("sheets", () -> farm.logSheets(entry));
        }
        return text.toString();
    }

    private String jobs() {
        for (int i = 0; i < jobs; i++) {
            int job = i;
            ask("state", () -> farm.stateOf(job));
            ask("left", () -> farm.pagesLeft(job));
            ask("sheets out", () -> farm.sheetsOut(job));
            ask("stapled", () -> farm.stapledCopies(job));
            ask("stop", () -> farm.stopOf(job));
            ask("best", () -> farm.bestPrinter(job));
        }
        return text.toString();
    }

    private String lines() {
        for (int i = 0; i < jobs; i++) {
            int job = i;
            ask("length", () -> farm.writeJob(job));
            if (job == 0 || job == jobs - 1) {
                line();
            }
            ask("to be stapled", () -> farm.setStapled(job, true));
        }
        return text.toString();
    }

    private void line() {
        asked += 50;
        text.append(State.line(farm)).append("; ");
    }

    private String queues() {
        for (int i = 0; i < printers; i++) {
            int printer = i;
            ask("queue", () -> farm.queueLength(printer));
            int length = farm.queueLength(printer);
            for (int j = 0; j < length; j++) {
                int position = j;
                ask("queued", () -> farm.queueAt(printer, position));
            }
        }
        for (int i = 0; i < jobs; i++) {
            int job = i;
            ask("reason", () -> farm.reasonFor(job, job % 4));
        }
        return text.toString();
    }

    private String plans() {
        for (int i = 0; i < jobs * printers; i++) {
            int job = i / printers;
            int printer = i % printers;
            ask("would print", () -> farm.wouldPrint(job, printer));
        }
        return text.toString();
    }

    /** What comes out is billed by all three prices, and the next numbers show. */
    private String changes() {
        for (int i = 0; i < users; i++) {
            int user = i;
            ask("grant", () -> farm.grant(user, false, 60));
            ask("grant", () -> farm.grant(user, true, 60));
        }
        for (int i = 0; i < printers; i++) {
            int printer = i;
            ask("toner", () -> farm.setToner(printer, false, 100));
            ask("toner", () -> farm.setToner(printer, true, 90));
            ask("staples", () -> farm.setStaples(printer, 2));
            ask("load", () -> farm.load(printer, 0, 20));
        }
        for (int i = 0; i < jobs; i++) {
            int job = i;
            ask("release", () -> farm.release(job, job % 2));
            ask("left", () -> farm.pagesLeft(job));
        }
        ask("user", () -> farm.addUser(70, 70));
        ask("printer", () -> farm.addPrinter(true, 500, 5));
        ask("tray", () -> farm.addTray(0, 'a', 50));
        ask("job", () -> farm.submit(0, 3, 2, 'a', true, true));
        ask("job", () -> farm.submit(0, 3, 2, 'a', false, false));
        ask("releaseAll", () -> farm.releaseAll(0, 0));
        for (int i = 0; i < 7; i++) {
            int user = i;
            ask("bill", () -> farm.billOf(user));
        }
        ask("prices", () -> farm.setPrices(3, 4, 5));
        for (int i = 0; i < jobs; i++) {
            int job = i;
            ask("cancel", () -> farm.cancel(job));
        }
        ask("entries", farm::logSize);
        ask("consistent", farm::isConsistent);
        return text.toString();
    }
}
